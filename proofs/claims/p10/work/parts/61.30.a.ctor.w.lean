def zD (h : z_H) (q : Nat) : Option Unit := if (h q).isSome = true then some () else none
theorem zD_s {h : z_H} {q : Nat} {u : Unit} (e : zD h q = some u) : (h q).isSome = true := by
  unfold zD at e
  split at e
  · next q => exact q
  · cases e
def zP (v : Int32) : Option Unit := if ¬ v < 0 ∧ v.toNatClampNeg ≤ 1000 then some () else none
theorem zP_s {v : Int32} {u : Unit} (e : zP v = some u) : ¬ v < 0 ∧ v.toNatClampNeg ≤ 1000 := by
  unfold zP at e
  split at e
  · next q => exact q
  · cases e
set_option maxRecDepth 100000 in
theorem wn_Addr : Cond.instantiable R_Addr 3 ∈ zT := z_m 397 rfl rfl
set_option maxRecDepth 100000 in
theorem wz_Addr : Cond.initialized R_Addr ∈ zT := z_m 130 rfl rfl
set_option maxRecDepth 100000 in
theorem wn_Cmd : Cond.instantiable R_Cmd 16 ∈ zT := z_m 391 rfl rfl
set_option maxRecDepth 100000 in
theorem wz_Cmd : Cond.initialized R_Cmd ∈ zT := z_m 129 rfl rfl
set_option maxRecDepth 100000 in
theorem wn_Cur : Cond.instantiable R_Cur 3 ∈ zT := z_m 179 rfl rfl
set_option maxRecDepth 100000 in
theorem wz_Cur : Cond.initialized R_Cur ∈ zT := z_m 123 rfl rfl
set_option maxRecDepth 100000 in
theorem wn_Ed : Cond.instantiable R_Ed 17 ∈ zT := z_m 250 rfl rfl
set_option maxRecDepth 100000 in
theorem wz_Ed : Cond.initialized R_Ed ∈ zT := z_m 125 rfl rfl
set_option maxRecDepth 100000 in
theorem wn_It : Cond.instantiable R_It 5 ∈ zT := z_m 363 rfl rfl
set_option maxRecDepth 100000 in
theorem wz_It : Cond.initialized R_It ∈ zT := z_m 128 rfl rfl
set_option maxRecDepth 100000 in
theorem wn_Ma : Cond.instantiable R_Ma 9 ∈ zT := z_m 258 rfl rfl
set_option maxRecDepth 100000 in
theorem wz_Ma : Cond.initialized R_Ma ∈ zT := z_m 126 rfl rfl
set_option maxRecDepth 100000 in
theorem wn_Pa : Cond.instantiable R_Pa 7 ∈ zT := z_m 173 rfl rfl
set_option maxRecDepth 100000 in
theorem wz_Pa : Cond.initialized R_Pa ∈ zT := z_m 122 rfl rfl
set_option maxRecDepth 100000 in
theorem wn_Pt : Cond.instantiable R_Pt 7 ∈ zT := z_m 403 rfl rfl
set_option maxRecDepth 100000 in
theorem wz_Pt : Cond.initialized R_Pt ∈ zT := z_m 131 rfl rfl
set_option maxRecDepth 100000 in
theorem wn_Pr : Cond.instantiable R_Pr 7 ∈ zT := z_m 199 rfl rfl
set_option maxRecDepth 100000 in
theorem wz_Pr : Cond.initialized R_Pr ∈ zT := z_m 124 rfl rfl
set_option maxRecDepth 100000 in
theorem wn_Prog : Cond.instantiable R_Prog 4 ∈ zT := z_m 355 rfl rfl
set_option maxRecDepth 100000 in
theorem wz_Prog : Cond.initialized R_Prog ∈ zT := z_m 127 rfl rfl
set_option maxRecDepth 100000 in
theorem wn_Row : Cond.instantiable R_Row 2 ∈ zT := z_m 150 rfl rfl
set_option maxRecDepth 100000 in
theorem wz_Row : Cond.initialized R_Row ∈ zT := z_m 121 rfl rfl
set_option maxRecDepth 100000 in
theorem wn_SF : Cond.instantiable R_SF 10 ∈ zT := z_m 142 rfl rfl
set_option maxRecDepth 100000 in
theorem wz_SF : Cond.initialized R_SF ∈ zT := z_m 120 rfl rfl
set_option maxRecDepth 100000 in
theorem wn_Mod : Cond.instantiable R_Mod 77 ∈ zT := z_m 1172 rfl rfl
set_option maxRecDepth 100000 in
theorem wz_Mod : Cond.initialized R_Mod ∈ zT := z_m 132 rfl rfl
set_option maxRecDepth 100000 in
theorem wk_Law_8 : Cond.classLink "StreamForgeLaw" 8 "StreamForge" ∈ zT := z_m 141 rfl rfl
set_option maxRecDepth 100000 in
theorem wk_SF_7 : Cond.classLink "StreamForge" 7 "StreamForge$Row" ∈ zT := z_m 149 rfl rfl
set_option maxRecDepth 100000 in
theorem wk_SF_22 : Cond.classLink "StreamForge" 22 "StreamForge$Parser" ∈ zT := z_m 172 rfl rfl
set_option maxRecDepth 100000 in
theorem wk_Pa_9 : Cond.classLink "StreamForge$Parser" 9 "StreamForge$Cursor" ∈ zT := z_m 178 rfl rfl
set_option maxRecDepth 100000 in
theorem wk_Pa_18 : Cond.classLink "StreamForge$Parser" 18 "StreamForge$PatternReader" ∈ zT := z_m 198 rfl rfl
set_option maxRecDepth 100000 in
theorem wk_SF_29 : Cond.classLink "StreamForge" 29 "StreamForge$Editor" ∈ zT := z_m 249 rfl rfl
set_option maxRecDepth 100000 in
theorem wk_Ed_9 : Cond.classLink "StreamForge$Editor" 9 "StreamForge$Row" ∈ zT := z_m 255 rfl rfl
set_option maxRecDepth 100000 in
theorem wk_Ed_29 : Cond.classLink "StreamForge$Editor" 29 "StreamForge$Matcher" ∈ zT := z_m 257 rfl rfl
set_option maxRecDepth 100000 in
theorem wk_SF_36 : Cond.classLink "StreamForge" 36 "StreamForge$Matcher" ∈ zT := z_m 352 rfl rfl
set_option maxRecDepth 100000 in
theorem wk_SF_43 : Cond.classLink "StreamForge" 43 "StreamForge$Program" ∈ zT := z_m 354 rfl rfl
set_option maxRecDepth 100000 in
theorem wk_Prog_9 : Cond.classLink "StreamForge$Program" 9 "StreamForge$Row" ∈ zT := z_m 360 rfl rfl
set_option maxRecDepth 100000 in
theorem wk_Prog_20 : Cond.classLink "StreamForge$Program" 20 "StreamForge$Items" ∈ zT := z_m 362 rfl rfl
set_option maxRecDepth 100000 in
theorem wk_Prog_27 : Cond.classLink "StreamForge$Program" 27 "StreamForge$Command" ∈ zT := z_m 389 rfl rfl
set_option maxRecDepth 100000 in
theorem wk_Cmd_9 : Cond.classLink "StreamForge$Command" 9 "StreamForge$Address" ∈ zT := z_m 396 rfl rfl
set_option maxRecDepth 100000 in
theorem wk_Addr_7 : Cond.classLink "StreamForge$Address" 7 "StreamForge$Pattern" ∈ zT := z_m 402 rfl rfl
set_option maxRecDepth 100000 in
theorem wk_Cmd_21 : Cond.classLink "StreamForge$Command" 21 "StreamForge$Pattern" ∈ zT := z_m 452 rfl rfl
set_option maxRecDepth 100000 in
theorem wk_Law_53 : Cond.classLink "StreamForgeLaw" 53 "StreamForgeModel" ∈ zT := z_m 1171 rfl rfl
set_option maxRecDepth 100000 in
theorem wa_1 : Cond.arrayClass .char ∈ zT := z_m 170 rfl rfl
set_option maxRecDepth 100000 in
theorem wa_0 : Cond.arrayClass .int ∈ zT := z_m 248 rfl rfl
set_option maxRecDepth 100000 in
theorem wa_2 : Cond.arrayClass .long ∈ zT := z_m 388 rfl rfl
set_option maxRecDepth 100000 in
theorem wa_3 : Cond.arrayClass .boolean ∈ zT := z_m 1409 rfl rfl
set_option maxRecDepth 100000 in
theorem wo_i : Cond.instanceMethod objectInit ∈ zT := z_m 147 rfl rfl
set_option maxRecDepth 100000 in
theorem wo_c : Cond.code objectInit ⟨#[0xb1]⟩ 1 none ∈ zT := z_m 148 rfl rfl
set_option maxRecDepth 100000 in
theorem wo_SF_1 : Cond.methodLink "StreamForge" 1 objectInit ∈ zT := z_m 146 rfl rfl
set_option maxRecDepth 100000 in
theorem wo_Row_3 : Cond.methodLink "StreamForge$Row" 3 objectInit ∈ zT := z_m 154 rfl rfl
set_option maxRecDepth 100000 in
theorem wo_Pa_3 : Cond.methodLink "StreamForge$Parser" 3 objectInit ∈ zT := z_m 177 rfl rfl
set_option maxRecDepth 100000 in
theorem wo_Cur_3 : Cond.methodLink "StreamForge$Cursor" 3 objectInit ∈ zT := z_m 183 rfl rfl
set_option maxRecDepth 100000 in
theorem wo_Pr_3 : Cond.methodLink "StreamForge$PatternReader" 3 objectInit ∈ zT := z_m 203 rfl rfl
set_option maxRecDepth 100000 in
theorem wo_Ed_3 : Cond.methodLink "StreamForge$Editor" 3 objectInit ∈ zT := z_m 254 rfl rfl
set_option maxRecDepth 100000 in
theorem wo_Ma_3 : Cond.methodLink "StreamForge$Matcher" 3 objectInit ∈ zT := z_m 262 rfl rfl
set_option maxRecDepth 100000 in
theorem wo_Prog_3 : Cond.methodLink "StreamForge$Program" 3 objectInit ∈ zT := z_m 359 rfl rfl
set_option maxRecDepth 100000 in
theorem wo_It_3 : Cond.methodLink "StreamForge$Items" 3 objectInit ∈ zT := z_m 367 rfl rfl
set_option maxRecDepth 100000 in
theorem wo_Cmd_3 : Cond.methodLink "StreamForge$Command" 3 objectInit ∈ zT := z_m 395 rfl rfl
set_option maxRecDepth 100000 in
theorem wo_Addr_1 : Cond.methodLink "StreamForge$Address" 1 objectInit ∈ zT := z_m 401 rfl rfl
set_option maxRecDepth 100000 in
theorem wo_Pt_1 : Cond.methodLink "StreamForge$Pattern" 1 objectInit ∈ zT := z_m 407 rfl rfl
set_option maxRecDepth 100000 in
theorem wo_Mod_1 : Cond.methodLink "StreamForgeModel" 1 objectInit ∈ zT := z_m 1176 rfl rfl
set_option maxRecDepth 100000 in
theorem yn_SF_init : z_yI y_SF_init prog_1_method_1_code 2 0 := ⟨z_m 144 rfl rfl, z_m 120 rfl rfl, z_m 145 rfl rfl, rfl, nc1_SF, nc2_SF, by decide +kernel⟩
set_option maxRecDepth 100000 in
theorem yn_Mod_init : z_yI y_Mod_init prog_14_method_1_code 1 0 := ⟨z_m 1174 rfl rfl, z_m 132 rfl rfl, z_m 1175 rfl rfl, rfl, nc1_Mod, nc2_Mod, by decide +kernel⟩
set_option maxRecDepth 100000 in
theorem yn_Addr_init : z_yI y_Addr_init prog_2_method_1_code 1 0 := ⟨z_m 399 rfl rfl, z_m 130 rfl rfl, z_m 400 rfl rfl, rfl, nc1_Addr, nc2_Addr, by decide +kernel⟩
set_option maxRecDepth 100000 in
theorem yn_Cmd_init : z_yI y_Cmd_init prog_3_method_1_code 1 0 := ⟨z_m 393 rfl rfl, z_m 129 rfl rfl, z_m 394 rfl rfl, rfl, nc1_Cmd, nc2_Cmd, by decide +kernel⟩
set_option maxRecDepth 100000 in
theorem yn_Cur_init : z_yI y_Cur_init prog_4_method_1_code 1 0 := ⟨z_m 181 rfl rfl, z_m 123 rfl rfl, z_m 182 rfl rfl, rfl, nc1_Cur, nc2_Cur, by decide +kernel⟩
set_option maxRecDepth 100000 in
theorem yn_Ed_init : z_yI y_Ed_init prog_5_method_1_code 1 0 := ⟨z_m 252 rfl rfl, z_m 125 rfl rfl, z_m 253 rfl rfl, rfl, nc1_Ed, nc2_Ed, by decide +kernel⟩
set_option maxRecDepth 100000 in
theorem yn_It_init : z_yI y_It_init prog_6_method_1_code 1 0 := ⟨z_m 365 rfl rfl, z_m 128 rfl rfl, z_m 366 rfl rfl, rfl, nc1_It, nc2_It, by decide +kernel⟩
set_option maxRecDepth 100000 in
theorem yn_Ma_init : z_yI y_Ma_init prog_7_method_1_code 1 0 := ⟨z_m 260 rfl rfl, z_m 126 rfl rfl, z_m 261 rfl rfl, rfl, nc1_Ma, nc2_Ma, by decide +kernel⟩
set_option maxRecDepth 100000 in
theorem yn_Pa_init : z_yI y_Pa_init prog_8_method_1_code 1 0 := ⟨z_m 175 rfl rfl, z_m 122 rfl rfl, z_m 176 rfl rfl, rfl, nc1_Pa, nc2_Pa, by decide +kernel⟩
set_option maxRecDepth 100000 in
theorem yn_Pt_init : z_yI y_Pt_init prog_9_method_1_code 1 0 := ⟨z_m 405 rfl rfl, z_m 131 rfl rfl, z_m 406 rfl rfl, rfl, nc1_Pt, nc2_Pt, by decide +kernel⟩
set_option maxRecDepth 100000 in
theorem yn_Pr_init : z_yI y_Pr_init prog_10_method_1_code 2 1 := ⟨z_m 201 rfl rfl, z_m 124 rfl rfl, z_m 202 rfl rfl, rfl, nc1_Pr, nc2_Pr, by decide +kernel⟩
set_option maxRecDepth 100000 in
theorem yn_Prog_init : z_yI y_Prog_init prog_11_method_1_code 2 0 := ⟨z_m 357 rfl rfl, z_m 127 rfl rfl, z_m 358 rfl rfl, rfl, nc1_Prog, nc2_Prog, by decide +kernel⟩
set_option maxRecDepth 100000 in
theorem yn_Row_init : z_yI y_Row_init prog_12_method_1_code 2 1 := ⟨z_m 152 rfl rfl, z_m 121 rfl rfl, z_m 153 rfl rfl, rfl, nc1_Row, nc2_Row, by decide +kernel⟩
