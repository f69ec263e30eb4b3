set_option maxRecDepth 100000 in
set_option maxHeartbeats 8000000 in
theorem k_CAddr : ∀ j < 599, k_T j = 1 → k_T (j + 1) = 8 ∧ ((k_R j 1).1 = 0 ∧ (k_R j 1).2 = 2) ∧ ((k_R j 2).1 = (-2147483648) ∧ (k_R j 2).2 = 2147483647) := by decide +kernel
set_option maxRecDepth 100000 in
set_option maxHeartbeats 8000000 in
theorem k_CCmd0 : ∀ j < 599, k_T j = 2 → k_T (j + 1) = 1 ∧ k_T (j + 3) = 1 ∧ k_T (j + 5) = 8 ∧ ((k_R j 3).1 = (-2147483648) ∧ (k_R j 3).2 = 2147483647) := by decide +kernel
set_option maxRecDepth 100000 in
set_option maxHeartbeats 8000000 in
theorem k_CCmd1 : ∀ j < 599, k_T j = 2 → ((k_R j 4).1 = 0 ∧ (k_R j 4).2 = 242) ∧ ((k_R j 5).1 = 0 ∧ (k_R j 5).2 = 2) ∧ ((k_R j 6).1 = (-2147483648) ∧ (k_R j 6).2 = 2147483647) ∧ ((k_R j 7).1 = (-1) ∧ (k_R j 7).2 = 40) := by decide +kernel
set_option maxRecDepth 100000 in
set_option maxHeartbeats 8000000 in
theorem k_CCmd2 : ∀ j < 599, k_T j = 2 → ((k_R j 8).1 = (-1) ∧ (k_R j 8).2 = 25) ∧ ((k_R j 9).1 = 0 ∧ (k_R j 9).2 = 242) ∧ ((k_R j 10).1 = 0 ∧ (k_R j 10).2 = 242) ∧ ((k_R j 11).1 = 0 ∧ (k_R j 11).2 = 243) := by decide +kernel
set_option maxRecDepth 100000 in
set_option maxHeartbeats 8000000 in
theorem k_CCmd3 : ∀ j < 599, k_T j = 2 → ((k_R j 12).1 = (-2147483648) ∧ (k_R j 12).2 = 2147483647) ∧ ((k_R j 13).1 = (-2147483648) ∧ (k_R j 13).2 = 2147483647) ∧ ((k_R j 14).1 = (-2147483648) ∧ (k_R j 14).2 = 2147483647) ∧ ((k_R j 15).1 = (-2147483648) ∧ (k_R j 15).2 = 2147483647) := by decide +kernel
theorem k_CCmd : ∀ j < 599, k_T j = 2 → k_T (j + 1) = 1 ∧ k_T (j + 3) = 1 ∧ k_T (j + 5) = 8 ∧ ((k_R j 3).1 = (-2147483648) ∧ (k_R j 3).2 = 2147483647) ∧ ((k_R j 4).1 = 0 ∧ (k_R j 4).2 = 242) ∧ ((k_R j 5).1 = 0 ∧ (k_R j 5).2 = 2) ∧ ((k_R j 6).1 = (-2147483648) ∧ (k_R j 6).2 = 2147483647) ∧ ((k_R j 7).1 = (-1) ∧ (k_R j 7).2 = 40) ∧ ((k_R j 8).1 = (-1) ∧ (k_R j 8).2 = 25) ∧ ((k_R j 9).1 = 0 ∧ (k_R j 9).2 = 242) ∧ ((k_R j 10).1 = 0 ∧ (k_R j 10).2 = 242) ∧ ((k_R j 11).1 = 0 ∧ (k_R j 11).2 = 243) ∧ ((k_R j 12).1 = (-2147483648) ∧ (k_R j 12).2 = 2147483647) ∧ ((k_R j 13).1 = (-2147483648) ∧ (k_R j 13).2 = 2147483647) ∧ ((k_R j 14).1 = (-2147483648) ∧ (k_R j 14).2 = 2147483647) ∧ ((k_R j 15).1 = (-2147483648) ∧ (k_R j 15).2 = 2147483647) := fun j hj e => ⟨(k_CCmd0 j hj e).1, (k_CCmd0 j hj e).2.1, (k_CCmd0 j hj e).2.2.1, (k_CCmd0 j hj e).2.2.2, (k_CCmd1 j hj e).1, (k_CCmd1 j hj e).2.1, (k_CCmd1 j hj e).2.2.1, (k_CCmd1 j hj e).2.2.2, (k_CCmd2 j hj e).1, (k_CCmd2 j hj e).2.1, (k_CCmd2 j hj e).2.2.1, (k_CCmd2 j hj e).2.2.2, (k_CCmd3 j hj e).1, (k_CCmd3 j hj e).2.1, (k_CCmd3 j hj e).2.2.1, (k_CCmd3 j hj e).2.2.2⟩
set_option maxRecDepth 100000 in
set_option maxHeartbeats 8000000 in
theorem k_CCur : ∀ j < 599, k_T j = 3 → ((k_R j 1).1 = 0 ∧ (k_R j 1).2 = 242) ∧ ((k_R j 2).1 = (-2147483648) ∧ (k_R j 2).2 = 2147483647) := by decide +kernel
set_option maxRecDepth 100000 in
set_option maxHeartbeats 8000000 in
theorem k_CEd0 : ∀ j < 599, k_T j = 4 → k_T (j + 1) = 11 ∧ (k_R (j + 1) 1).2 = 600 ∧ ((k_R j 3).1 = 0 ∧ (k_R j 3).2 = 12) ∧ ((k_R j 4).1 = 0 ∧ (k_R j 4).2 = 200) := by decide +kernel
set_option maxRecDepth 100000 in
set_option maxHeartbeats 8000000 in
theorem k_CEd1 : ∀ j < 599, k_T j = 4 → ((k_R j 5).1 = (-2147483648) ∧ (k_R j 5).2 = 2147483647) ∧ ((k_R j 6).1 = (-2147483648) ∧ (k_R j 6).2 = 2147483647) ∧ k_T (j + 7) = 11 ∧ (k_R (j + 7) 1).2 = 200 := by decide +kernel
set_option maxRecDepth 100000 in
set_option maxHeartbeats 8000000 in
theorem k_CEd2 : ∀ j < 599, k_T j = 4 → k_T (j + 9) = 6 ∧ ((k_R j 12).1 = 0 ∧ (k_R j 12).2 = 12) ∧ ((k_R j 13).1 = 0 ∧ (k_R j 13).2 = 40) ∧ ((k_R j 14).1 = (-2147483648) ∧ (k_R j 14).2 = 2147483647) := by decide +kernel
set_option maxRecDepth 100000 in
set_option maxHeartbeats 8000000 in
theorem k_CEd3 : ∀ j < 599, k_T j = 4 → ((k_R j 15).1 = (-2147483648) ∧ (k_R j 15).2 = 2147483647) ∧ ((k_R j 16).1 = (-2147483648) ∧ (k_R j 16).2 = 2147483647) := by decide +kernel
theorem k_CEd : ∀ j < 599, k_T j = 4 → k_T (j + 1) = 11 ∧ (k_R (j + 1) 1).2 = 600 ∧ ((k_R j 3).1 = 0 ∧ (k_R j 3).2 = 12) ∧ ((k_R j 4).1 = 0 ∧ (k_R j 4).2 = 200) ∧ ((k_R j 5).1 = (-2147483648) ∧ (k_R j 5).2 = 2147483647) ∧ ((k_R j 6).1 = (-2147483648) ∧ (k_R j 6).2 = 2147483647) ∧ k_T (j + 7) = 11 ∧ (k_R (j + 7) 1).2 = 200 ∧ k_T (j + 9) = 6 ∧ ((k_R j 12).1 = 0 ∧ (k_R j 12).2 = 12) ∧ ((k_R j 13).1 = 0 ∧ (k_R j 13).2 = 40) ∧ ((k_R j 14).1 = (-2147483648) ∧ (k_R j 14).2 = 2147483647) ∧ ((k_R j 15).1 = (-2147483648) ∧ (k_R j 15).2 = 2147483647) ∧ ((k_R j 16).1 = (-2147483648) ∧ (k_R j 16).2 = 2147483647) := fun j hj e => ⟨(k_CEd0 j hj e).1, (k_CEd0 j hj e).2.1, (k_CEd0 j hj e).2.2.1, (k_CEd0 j hj e).2.2.2, (k_CEd1 j hj e).1, (k_CEd1 j hj e).2.1, (k_CEd1 j hj e).2.2.1, (k_CEd1 j hj e).2.2.2, (k_CEd2 j hj e).1, (k_CEd2 j hj e).2.1, (k_CEd2 j hj e).2.2.1, (k_CEd2 j hj e).2.2.2, (k_CEd3 j hj e).1, (k_CEd3 j hj e).2⟩
set_option maxRecDepth 100000 in
set_option maxHeartbeats 8000000 in
theorem k_CIt0 : ∀ j < 599, k_T j = 5 → ((k_R j 4).1 = 0 ∧ (k_R j 4).2 = 240) ∧ k_T (j + 1) = 240 * 1000 + 100 + 0 ∧ ((k_E (j + 1)).1 = (-2147483648) ∧ (k_E (j + 1)).2 = 2147483647) ∧ k_T (j + 2) = 240 * 1000 + 100 + 0 := by decide +kernel
set_option maxRecDepth 100000 in
set_option maxHeartbeats 8000000 in
theorem k_CIt1 : ∀ j < 599, k_T j = 5 → ((k_E (j + 2)).1 = 0 ∧ (k_E (j + 2)).2 = 3) ∧ k_T (j + 3) = 240 * 1000 + 200 ∧ k_T (j + 4) = 240 * 1000 + 200 := by decide +kernel
theorem k_CIt : ∀ j < 599, k_T j = 5 → ((k_R j 4).1 = 0 ∧ (k_R j 4).2 = 240) ∧ k_T (j + 1) = 240 * 1000 + 100 + 0 ∧ ((k_E (j + 1)).1 = (-2147483648) ∧ (k_E (j + 1)).2 = 2147483647) ∧ k_T (j + 2) = 240 * 1000 + 100 + 0 ∧ ((k_E (j + 2)).1 = 0 ∧ (k_E (j + 2)).2 = 3) ∧ k_T (j + 3) = 240 * 1000 + 200 ∧ k_T (j + 4) = 240 * 1000 + 200 := fun j hj e => ⟨(k_CIt0 j hj e).1, (k_CIt0 j hj e).2.1, (k_CIt0 j hj e).2.2.1, (k_CIt0 j hj e).2.2.2, (k_CIt1 j hj e).1, (k_CIt1 j hj e).2.1, (k_CIt1 j hj e).2.2⟩
set_option maxRecDepth 100000 in
set_option maxHeartbeats 8000000 in
theorem k_CMa0 : ∀ j < 599, k_T j = 6 → ((k_R j 0).1 = 0 ∧ (k_R j 0).2 = 600) ∧ ((k_R j 1).1 = (-1) ∧ (k_R j 1).2 = 600) ∧ k_T (j + 1) = 4 * 1000 + 100 + 0 ∧ ((k_E (j + 1)).1 = 0 ∧ (k_E (j + 1)).2 = 600) := by decide +kernel
set_option maxRecDepth 100000 in
set_option maxHeartbeats 8000000 in
theorem k_CMa1 : ∀ j < 599, k_T j = 6 → k_T (j + 2) = 4 * 1000 + 100 + 0 ∧ ((k_E (j + 2)).1 = 0 ∧ (k_E (j + 2)).2 = 600) ∧ k_T (j + 3) = 4 * 1000 + 100 + 0 ∧ ((k_E (j + 3)).1 = 0 ∧ (k_E (j + 3)).2 = 600) := by decide +kernel
set_option maxRecDepth 100000 in
set_option maxHeartbeats 8000000 in
theorem k_CMa2 : ∀ j < 599, k_T j = 6 → k_T (j + 4) = 4 * 1000 + 100 + 0 ∧ ((k_E (j + 4)).1 = 0 ∧ (k_E (j + 4)).2 = 600) := by decide +kernel
theorem k_CMa : ∀ j < 599, k_T j = 6 → ((k_R j 0).1 = 0 ∧ (k_R j 0).2 = 600) ∧ ((k_R j 1).1 = (-1) ∧ (k_R j 1).2 = 600) ∧ k_T (j + 1) = 4 * 1000 + 100 + 0 ∧ ((k_E (j + 1)).1 = 0 ∧ (k_E (j + 1)).2 = 600) ∧ k_T (j + 2) = 4 * 1000 + 100 + 0 ∧ ((k_E (j + 2)).1 = 0 ∧ (k_E (j + 2)).2 = 600) ∧ k_T (j + 3) = 4 * 1000 + 100 + 0 ∧ ((k_E (j + 3)).1 = 0 ∧ (k_E (j + 3)).2 = 600) ∧ k_T (j + 4) = 4 * 1000 + 100 + 0 ∧ ((k_E (j + 4)).1 = 0 ∧ (k_E (j + 4)).2 = 600) := fun j hj e => ⟨(k_CMa0 j hj e).1, (k_CMa0 j hj e).2.1, (k_CMa0 j hj e).2.2.1, (k_CMa0 j hj e).2.2.2, (k_CMa1 j hj e).1, (k_CMa1 j hj e).2.1, (k_CMa1 j hj e).2.2.1, (k_CMa1 j hj e).2.2.2, (k_CMa2 j hj e).1, (k_CMa2 j hj e).2⟩
set_option maxRecDepth 100000 in
set_option maxHeartbeats 8000000 in
theorem k_CPa0 : ∀ j < 599, k_T j = 7 → k_T (j + 1) = 3 ∧ k_T (j + 2) = 9 ∧ ((k_R j 4).1 = 0 ∧ (k_R j 4).2 = 4) ∧ k_T (j + 3) = 4 * 1000 + 100 + 0 := by decide +kernel
set_option maxRecDepth 100000 in
set_option maxHeartbeats 8000000 in
theorem k_CPa1 : ∀ j < 599, k_T j = 7 → ((k_E (j + 3)).1 = 0 ∧ (k_E (j + 3)).2 = 39) ∧ k_T (j + 4) = 26 * 1000 + 100 + 0 ∧ ((k_E (j + 4)).1 = (-1) ∧ (k_E (j + 4)).2 = 40) := by decide +kernel
theorem k_CPa : ∀ j < 599, k_T j = 7 → k_T (j + 1) = 3 ∧ k_T (j + 2) = 9 ∧ ((k_R j 4).1 = 0 ∧ (k_R j 4).2 = 4) ∧ k_T (j + 3) = 4 * 1000 + 100 + 0 ∧ ((k_E (j + 3)).1 = 0 ∧ (k_E (j + 3)).2 = 39) ∧ k_T (j + 4) = 26 * 1000 + 100 + 0 ∧ ((k_E (j + 4)).1 = (-1) ∧ (k_E (j + 4)).2 = 40) := fun j hj e => ⟨(k_CPa0 j hj e).1, (k_CPa0 j hj e).2.1, (k_CPa0 j hj e).2.2.1, (k_CPa0 j hj e).2.2.2, (k_CPa1 j hj e).1, (k_CPa1 j hj e).2.1, (k_CPa1 j hj e).2.2⟩
set_option maxRecDepth 100000 in
set_option maxHeartbeats 8000000 in
theorem k_CPt0 : ∀ j < 599, k_T j = 8 → ((k_R j 0).1 = (-2147483648) ∧ (k_R j 0).2 = 2147483647) ∧ ((k_R j 1).1 = (-2147483648) ∧ (k_R j 1).2 = 2147483647) ∧ ((k_R j 2).1 = 0 ∧ (k_R j 2).2 = 240) ∧ ((k_R j 3).1 = 0 ∧ (k_R j 3).2 = 240) := by decide +kernel
set_option maxRecDepth 100000 in
set_option maxHeartbeats 8000000 in
theorem k_CPt1 : ∀ j < 599, k_T j = 8 → ((k_R j 4).1 = (-1) ∧ (k_R j 4).2 = 240) ∧ ((k_R j 5).1 = (-1) ∧ (k_R j 5).2 = 240) ∧ ((k_R j 6).1 = 0 ∧ (k_R j 6).2 = 3) := by decide +kernel
theorem k_CPt : ∀ j < 599, k_T j = 8 → ((k_R j 0).1 = (-2147483648) ∧ (k_R j 0).2 = 2147483647) ∧ ((k_R j 1).1 = (-2147483648) ∧ (k_R j 1).2 = 2147483647) ∧ ((k_R j 2).1 = 0 ∧ (k_R j 2).2 = 240) ∧ ((k_R j 3).1 = 0 ∧ (k_R j 3).2 = 240) ∧ ((k_R j 4).1 = (-1) ∧ (k_R j 4).2 = 240) ∧ ((k_R j 5).1 = (-1) ∧ (k_R j 5).2 = 240) ∧ ((k_R j 6).1 = 0 ∧ (k_R j 6).2 = 3) := fun j hj e => ⟨(k_CPt0 j hj e).1, (k_CPt0 j hj e).2.1, (k_CPt0 j hj e).2.2.1, (k_CPt0 j hj e).2.2.2, (k_CPt1 j hj e).1, (k_CPt1 j hj e).2.1, (k_CPt1 j hj e).2.2⟩
set_option maxRecDepth 100000 in
set_option maxHeartbeats 8000000 in
theorem k_CPr : ∀ j < 599, k_T j = 9 → ((k_R j 3).1 = (-2147483648) ∧ (k_R j 3).2 = 2147483647) ∧ ((k_R j 4).1 = 0 ∧ (k_R j 4).2 = 2) ∧ ((k_R j 5).1 = (-2147483648) ∧ (k_R j 5).2 = 2147483647) ∧ ((k_R j 6).1 = (-2147483648) ∧ (k_R j 6).2 = 2147483647) := by decide +kernel
set_option maxRecDepth 100000 in
set_option maxHeartbeats 8000000 in
theorem k_CProg0 : ∀ j < 599, k_T j = 10 → k_T (j + 1) = 11 ∧ (k_R (j + 1) 1).2 = 240 ∧ k_T (j + 3) = 5 ∧ ((k_R j 3).1 = 0 ∧ (k_R j 3).2 = 40) := by decide +kernel
set_option maxRecDepth 100000 in
set_option maxHeartbeats 8000000 in
theorem k_CProg1 : ∀ j < 599, k_T j = 10 → k_T (j + 8) = 40 * 1000 + 300 + 5 := by decide +kernel
theorem k_CProg : ∀ j < 599, k_T j = 10 → k_T (j + 1) = 11 ∧ (k_R (j + 1) 1).2 = 240 ∧ k_T (j + 3) = 5 ∧ ((k_R j 3).1 = 0 ∧ (k_R j 3).2 = 40) ∧ k_T (j + 8) = 40 * 1000 + 300 + 5 := fun j hj e => ⟨(k_CProg0 j hj e).1, (k_CProg0 j hj e).2.1, (k_CProg0 j hj e).2.2.1, (k_CProg0 j hj e).2.2.2, (k_CProg1 j hj e)⟩
set_option maxRecDepth 100000 in
set_option maxHeartbeats 8000000 in
theorem k_CSF0 : ∀ j < 599, k_T j = 12 → k_T (j + 1) = 11 ∧ (k_R (j + 1) 1).2 = 240 ∧ k_T (j + 4) = 7 ∧ k_T (j + 9) = 4 := by decide +kernel
set_option maxRecDepth 100000 in
set_option maxHeartbeats 8000000 in
theorem k_CSF1 : ∀ j < 599, k_T j = 12 → k_T (j + 25) = 6 ∧ ((k_R j 5).1 = 0 ∧ (k_R j 5).2 = 12) ∧ ((k_R j 8).1 = (-2147483648) ∧ (k_R j 8).2 = 2147483647) ∧ ((k_R j 9).1 = (-2147483648) ∧ (k_R j 9).2 = 2147483647) := by decide +kernel
set_option maxRecDepth 100000 in
set_option maxHeartbeats 8000000 in
theorem k_CSF2 : ∀ j < 599, k_T j = 12 → k_T (j + 3) = 12 * 1000 + 300 + 4 := by decide +kernel
theorem k_CSF : ∀ j < 599, k_T j = 12 → k_T (j + 1) = 11 ∧ (k_R (j + 1) 1).2 = 240 ∧ k_T (j + 4) = 7 ∧ k_T (j + 9) = 4 ∧ k_T (j + 25) = 6 ∧ ((k_R j 5).1 = 0 ∧ (k_R j 5).2 = 12) ∧ ((k_R j 8).1 = (-2147483648) ∧ (k_R j 8).2 = 2147483647) ∧ ((k_R j 9).1 = (-2147483648) ∧ (k_R j 9).2 = 2147483647) ∧ k_T (j + 3) = 12 * 1000 + 300 + 4 := fun j hj e => ⟨(k_CSF0 j hj e).1, (k_CSF0 j hj e).2.1, (k_CSF0 j hj e).2.2.1, (k_CSF0 j hj e).2.2.2, (k_CSF1 j hj e).1, (k_CSF1 j hj e).2.1, (k_CSF1 j hj e).2.2.1, (k_CSF1 j hj e).2.2.2, (k_CSF2 j hj e)⟩
set_option maxRecDepth 100000 in
set_option maxHeartbeats 8000000 in
theorem k_CRow : ∀ j < 599, k_T j = 11 → k_T (j + 1) = (k_T (j + 1) / 1000) * 1000 + 100 + 1 ∧ k_T (j + 1) / 1000 ≤ 600 ∧ (k_R j 1).1 = 0 ∧ (k_R j 1).2 = Int32.ofNat (k_T (j + 1) / 1000) ∧ (k_E (j + 1)).1 = 0 ∧ (k_E (j + 1)).2 = 65535 := by decide +kernel
