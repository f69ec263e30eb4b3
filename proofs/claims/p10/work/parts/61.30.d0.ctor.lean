set_option maxRecDepth 20000 in
def f_Prog_init (N : Nat) (v0 : Nat) (h : z_H) (n : Nat) : Option z_H :=
  z_b (some (z_up h n (.inr (10, [.null, .int 0])))) fun h1 =>
  z_b (zD h1 (n + 0)) fun u2 =>
  z_b (f_Row_init N n 240 h1 (n + 1)) fun h3 =>
  z_b (sF h3 v0 9 0 (.ref n)) fun h4 =>
  z_b (zD h4 (n + 1)) fun u5 =>
  z_b (some (z_up h4 (n + 2) (.inr (4, [.null, .null, .null, .null, .int 0])))) fun h6 =>
  z_b (zD h6 (n + 2)) fun u7 =>
  z_b (f_It_init N (n + 2) h6 (n + 3)) fun h8 =>
  z_b (sF h8 v0 9 1 (.ref (n + 2))) fun h9 =>
  z_b (zD h9 (n + 6)) fun u10 =>
  z_b (some (z_up h9 (n + 7) (.inl (5, 40, .inr (.inr (.inr (.inr (fun _ => none)))))))) fun h11 =>
  z_b (sF h11 v0 9 2 (.ref (n + 7))) fun h12 =>
  z_b (gR h12 v0 9 2) fun x13 =>
  z_b (zD h12 (n + 7)) fun u14 =>
  z_b (some (z_up h12 (n + 8) (.inr (1, [.null, .null, .null, .int 0, .int 0, .int 0, .int 0, .int 0, .int 0, .int 0, .int 0, .int 0, .int 0, .int 0, .int 0, .int 0])))) fun h15 =>
  z_b (zD h15 (n + 8)) fun u16 =>
  z_b (f_Cmd_init N (n + 8) h15 (n + 9)) fun h17 =>
  z_b (uR h17 x13 5 0 (n + 8) 1) fun h18 =>
  z_b (gR h18 v0 9 2) fun x19 =>
  z_b (zD h18 (n + 13)) fun u20 =>
  z_b (some (z_up h18 (n + 14) (.inr (1, [.null, .null, .null, .int 0, .int 0, .int 0, .int 0, .int 0, .int 0, .int 0, .int 0, .int 0, .int 0, .int 0, .int 0, .int 0])))) fun h21 =>
  z_b (zD h21 (n + 14)) fun u22 =>
  z_b (f_Cmd_init N (n + 14) h21 (n + 15)) fun h23 =>
  z_b (uR h23 x19 5 1 (n + 14) 1) fun h24 =>
  z_b (gR h24 v0 9 2) fun x25 =>
  z_b (zD h24 (n + 19)) fun u26 =>
  z_b (some (z_up h24 (n + 20) (.inr (1, [.null, .null, .null, .int 0, .int 0, .int 0, .int 0, .int 0, .int 0, .int 0, .int 0, .int 0, .int 0, .int 0, .int 0, .int 0])))) fun h27 =>
  z_b (zD h27 (n + 20)) fun u28 =>
  z_b (f_Cmd_init N (n + 20) h27 (n + 21)) fun h29 =>
  z_b (uR h29 x25 5 2 (n + 20) 1) fun h30 =>
  z_b (gR h30 v0 9 2) fun x31 =>
  z_b (zD h30 (n + 25)) fun u32 =>
  z_b (some (z_up h30 (n + 26) (.inr (1, [.null, .null, .null, .int 0, .int 0, .int 0, .int 0, .int 0, .int 0, .int 0, .int 0, .int 0, .int 0, .int 0, .int 0, .int 0])))) fun h33 =>
  z_b (zD h33 (n + 26)) fun u34 =>
  z_b (f_Cmd_init N (n + 26) h33 (n + 27)) fun h35 =>
  z_b (uR h35 x31 5 3 (n + 26) 1) fun h36 =>
  z_b (gR h36 v0 9 2) fun x37 =>
  z_b (zD h36 (n + 31)) fun u38 =>
  z_b (some (z_up h36 (n + 32) (.inr (1, [.null, .null, .null, .int 0, .int 0, .int 0, .int 0, .int 0, .int 0, .int 0, .int 0, .int 0, .int 0, .int 0, .int 0, .int 0])))) fun h39 =>
  z_b (zD h39 (n + 32)) fun u40 =>
  z_b (f_Cmd_init N (n + 32) h39 (n + 33)) fun h41 =>
  z_b (uR h41 x37 5 4 (n + 32) 1) fun h42 =>
  z_b (gR h42 v0 9 2) fun x43 =>
  z_b (zD h42 (n + 37)) fun u44 =>
  z_b (some (z_up h42 (n + 38) (.inr (1, [.null, .null, .null, .int 0, .int 0, .int 0, .int 0, .int 0, .int 0, .int 0, .int 0, .int 0, .int 0, .int 0, .int 0, .int 0])))) fun h45 =>
  z_b (zD h45 (n + 38)) fun u46 =>
  z_b (f_Cmd_init N (n + 38) h45 (n + 39)) fun h47 =>
  z_b (uR h47 x43 5 5 (n + 38) 1) fun h48 =>
  z_b (gR h48 v0 9 2) fun x49 =>
  z_b (zD h48 (n + 43)) fun u50 =>
  z_b (some (z_up h48 (n + 44) (.inr (1, [.null, .null, .null, .int 0, .int 0, .int 0, .int 0, .int 0, .int 0, .int 0, .int 0, .int 0, .int 0, .int 0, .int 0, .int 0])))) fun h51 =>
  z_b (zD h51 (n + 44)) fun u52 =>
  z_b (f_Cmd_init N (n + 44) h51 (n + 45)) fun h53 =>
  z_b (uR h53 x49 5 6 (n + 44) 1) fun h54 =>
  z_b (gR h54 v0 9 2) fun x55 =>
  z_b (zD h54 (n + 49)) fun u56 =>
  z_b (some (z_up h54 (n + 50) (.inr (1, [.null, .null, .null, .int 0, .int 0, .int 0, .int 0, .int 0, .int 0, .int 0, .int 0, .int 0, .int 0, .int 0, .int 0, .int 0])))) fun h57 =>
  z_b (zD h57 (n + 50)) fun u58 =>
  z_b (f_Cmd_init N (n + 50) h57 (n + 51)) fun h59 =>
  z_b (uR h59 x55 5 7 (n + 50) 1) fun h60 =>
  z_b (gR h60 v0 9 2) fun x61 =>
  z_b (zD h60 (n + 55)) fun u62 =>
  z_b (some (z_up h60 (n + 56) (.inr (1, [.null, .null, .null, .int 0, .int 0, .int 0, .int 0, .int 0, .int 0, .int 0, .int 0, .int 0, .int 0, .int 0, .int 0, .int 0])))) fun h63 =>
  z_b (zD h63 (n + 56)) fun u64 =>
  z_b (f_Cmd_init N (n + 56) h63 (n + 57)) fun h65 =>
  z_b (uR h65 x61 5 8 (n + 56) 1) fun h66 =>
  z_b (gR h66 v0 9 2) fun x67 =>
  z_b (zD h66 (n + 61)) fun u68 =>
  z_b (some (z_up h66 (n + 62) (.inr (1, [.null, .null, .null, .int 0, .int 0, .int 0, .int 0, .int 0, .int 0, .int 0, .int 0, .int 0, .int 0, .int 0, .int 0, .int 0])))) fun h69 =>
  z_b (zD h69 (n + 62)) fun u70 =>
  z_b (f_Cmd_init N (n + 62) h69 (n + 63)) fun h71 =>
  z_b (uR h71 x67 5 9 (n + 62) 1) fun h72 =>
  z_b (gR h72 v0 9 2) fun x73 =>
  z_b (zD h72 (n + 67)) fun u74 =>
  z_b (some (z_up h72 (n + 68) (.inr (1, [.null, .null, .null, .int 0, .int 0, .int 0, .int 0, .int 0, .int 0, .int 0, .int 0, .int 0, .int 0, .int 0, .int 0, .int 0])))) fun h75 =>
  z_b (zD h75 (n + 68)) fun u76 =>
  z_b (f_Cmd_init N (n + 68) h75 (n + 69)) fun h77 =>
  z_b (uR h77 x73 5 10 (n + 68) 1) fun h78 =>
  z_b (gR h78 v0 9 2) fun x79 =>
  z_b (zD h78 (n + 73)) fun u80 =>
  z_b (some (z_up h78 (n + 74) (.inr (1, [.null, .null, .null, .int 0, .int 0, .int 0, .int 0, .int 0, .int 0, .int 0, .int 0, .int 0, .int 0, .int 0, .int 0, .int 0])))) fun h81 =>
  z_b (zD h81 (n + 74)) fun u82 =>
  z_b (f_Cmd_init N (n + 74) h81 (n + 75)) fun h83 =>
  z_b (uR h83 x79 5 11 (n + 74) 1) fun h84 =>
  z_b (gR h84 v0 9 2) fun x85 =>
  z_b (zD h84 (n + 79)) fun u86 =>
  z_b (some (z_up h84 (n + 80) (.inr (1, [.null, .null, .null, .int 0, .int 0, .int 0, .int 0, .int 0, .int 0, .int 0, .int 0, .int 0, .int 0, .int 0, .int 0, .int 0])))) fun h87 =>
  z_b (zD h87 (n + 80)) fun u88 =>
  z_b (f_Cmd_init N (n + 80) h87 (n + 81)) fun h89 =>
  z_b (uR h89 x85 5 12 (n + 80) 1) fun h90 =>
  z_b (gR h90 v0 9 2) fun x91 =>
  z_b (zD h90 (n + 85)) fun u92 =>
  z_b (some (z_up h90 (n + 86) (.inr (1, [.null, .null, .null, .int 0, .int 0, .int 0, .int 0, .int 0, .int 0, .int 0, .int 0, .int 0, .int 0, .int 0, .int 0, .int 0])))) fun h93 =>
  z_b (zD h93 (n + 86)) fun u94 =>
  z_b (f_Cmd_init N (n + 86) h93 (n + 87)) fun h95 =>
  z_b (uR h95 x91 5 13 (n + 86) 1) fun h96 =>
  z_b (gR h96 v0 9 2) fun x97 =>
  z_b (zD h96 (n + 91)) fun u98 =>
  z_b (some (z_up h96 (n + 92) (.inr (1, [.null, .null, .null, .int 0, .int 0, .int 0, .int 0, .int 0, .int 0, .int 0, .int 0, .int 0, .int 0, .int 0, .int 0, .int 0])))) fun h99 =>
  z_b (zD h99 (n + 92)) fun u100 =>
  z_b (f_Cmd_init N (n + 92) h99 (n + 93)) fun h101 =>
  z_b (uR h101 x97 5 14 (n + 92) 1) fun h102 =>
  z_b (gR h102 v0 9 2) fun x103 =>
  z_b (zD h102 (n + 97)) fun u104 =>
  z_b (some (z_up h102 (n + 98) (.inr (1, [.null, .null, .null, .int 0, .int 0, .int 0, .int 0, .int 0, .int 0, .int 0, .int 0, .int 0, .int 0, .int 0, .int 0, .int 0])))) fun h105 =>
  z_b (zD h105 (n + 98)) fun u106 =>
  z_b (f_Cmd_init N (n + 98) h105 (n + 99)) fun h107 =>
  z_b (uR h107 x103 5 15 (n + 98) 1) fun h108 =>
  z_b (gR h108 v0 9 2) fun x109 =>
  z_b (zD h108 (n + 103)) fun u110 =>
  z_b (some (z_up h108 (n + 104) (.inr (1, [.null, .null, .null, .int 0, .int 0, .int 0, .int 0, .int 0, .int 0, .int 0, .int 0, .int 0, .int 0, .int 0, .int 0, .int 0])))) fun h111 =>
  z_b (zD h111 (n + 104)) fun u112 =>
  z_b (f_Cmd_init N (n + 104) h111 (n + 105)) fun h113 =>
  z_b (uR h113 x109 5 16 (n + 104) 1) fun h114 =>
  z_b (gR h114 v0 9 2) fun x115 =>
  z_b (zD h114 (n + 109)) fun u116 =>
  z_b (some (z_up h114 (n + 110) (.inr (1, [.null, .null, .null, .int 0, .int 0, .int 0, .int 0, .int 0, .int 0, .int 0, .int 0, .int 0, .int 0, .int 0, .int 0, .int 0])))) fun h117 =>
  z_b (zD h117 (n + 110)) fun u118 =>
  z_b (f_Cmd_init N (n + 110) h117 (n + 111)) fun h119 =>
  z_b (uR h119 x115 5 17 (n + 110) 1) fun h120 =>
  z_b (gR h120 v0 9 2) fun x121 =>
  z_b (zD h120 (n + 115)) fun u122 =>
  z_b (some (z_up h120 (n + 116) (.inr (1, [.null, .null, .null, .int 0, .int 0, .int 0, .int 0, .int 0, .int 0, .int 0, .int 0, .int 0, .int 0, .int 0, .int 0, .int 0])))) fun h123 =>
  z_b (zD h123 (n + 116)) fun u124 =>
  z_b (f_Cmd_init N (n + 116) h123 (n + 117)) fun h125 =>
  z_b (uR h125 x121 5 18 (n + 116) 1) fun h126 =>
  z_b (gR h126 v0 9 2) fun x127 =>
  z_b (zD h126 (n + 121)) fun u128 =>
  z_b (some (z_up h126 (n + 122) (.inr (1, [.null, .null, .null, .int 0, .int 0, .int 0, .int 0, .int 0, .int 0, .int 0, .int 0, .int 0, .int 0, .int 0, .int 0, .int 0])))) fun h129 =>
  z_b (zD h129 (n + 122)) fun u130 =>
  z_b (f_Cmd_init N (n + 122) h129 (n + 123)) fun h131 =>
  z_b (uR h131 x127 5 19 (n + 122) 1) fun h132 =>
  z_b (gR h132 v0 9 2) fun x133 =>
  z_b (zD h132 (n + 127)) fun u134 =>
  z_b (some (z_up h132 (n + 128) (.inr (1, [.null, .null, .null, .int 0, .int 0, .int 0, .int 0, .int 0, .int 0, .int 0, .int 0, .int 0, .int 0, .int 0, .int 0, .int 0])))) fun h135 =>
  z_b (zD h135 (n + 128)) fun u136 =>
  z_b (f_Cmd_init N (n + 128) h135 (n + 129)) fun h137 =>
  z_b (uR h137 x133 5 20 (n + 128) 1) fun h138 =>
  z_b (gR h138 v0 9 2) fun x139 =>
  z_b (zD h138 (n + 133)) fun u140 =>
  z_b (some (z_up h138 (n + 134) (.inr (1, [.null, .null, .null, .int 0, .int 0, .int 0, .int 0, .int 0, .int 0, .int 0, .int 0, .int 0, .int 0, .int 0, .int 0, .int 0])))) fun h141 =>
  z_b (zD h141 (n + 134)) fun u142 =>
  z_b (f_Cmd_init N (n + 134) h141 (n + 135)) fun h143 =>
  z_b (uR h143 x139 5 21 (n + 134) 1) fun h144 =>
  z_b (gR h144 v0 9 2) fun x145 =>
  z_b (zD h144 (n + 139)) fun u146 =>
  z_b (some (z_up h144 (n + 140) (.inr (1, [.null, .null, .null, .int 0, .int 0, .int 0, .int 0, .int 0, .int 0, .int 0, .int 0, .int 0, .int 0, .int 0, .int 0, .int 0])))) fun h147 =>
  z_b (zD h147 (n + 140)) fun u148 =>
  z_b (f_Cmd_init N (n + 140) h147 (n + 141)) fun h149 =>
  z_b (uR h149 x145 5 22 (n + 140) 1) fun h150 =>
  z_b (gR h150 v0 9 2) fun x151 =>
  z_b (zD h150 (n + 145)) fun u152 =>
  z_b (some (z_up h150 (n + 146) (.inr (1, [.null, .null, .null, .int 0, .int 0, .int 0, .int 0, .int 0, .int 0, .int 0, .int 0, .int 0, .int 0, .int 0, .int 0, .int 0])))) fun h153 =>
  z_b (zD h153 (n + 146)) fun u154 =>
  z_b (f_Cmd_init N (n + 146) h153 (n + 147)) fun h155 =>
  z_b (uR h155 x151 5 23 (n + 146) 1) fun h156 =>
  z_b (gR h156 v0 9 2) fun x157 =>
  z_b (zD h156 (n + 151)) fun u158 =>
  z_b (some (z_up h156 (n + 152) (.inr (1, [.null, .null, .null, .int 0, .int 0, .int 0, .int 0, .int 0, .int 0, .int 0, .int 0, .int 0, .int 0, .int 0, .int 0, .int 0])))) fun h159 =>
  z_b (zD h159 (n + 152)) fun u160 =>
  z_b (f_Cmd_init N (n + 152) h159 (n + 153)) fun h161 =>
  z_b (uR h161 x157 5 24 (n + 152) 1) fun h162 =>
  z_b (gR h162 v0 9 2) fun x163 =>
  z_b (zD h162 (n + 157)) fun u164 =>
  z_b (some (z_up h162 (n + 158) (.inr (1, [.null, .null, .null, .int 0, .int 0, .int 0, .int 0, .int 0, .int 0, .int 0, .int 0, .int 0, .int 0, .int 0, .int 0, .int 0])))) fun h165 =>
  z_b (zD h165 (n + 158)) fun u166 =>
  z_b (f_Cmd_init N (n + 158) h165 (n + 159)) fun h167 =>
  z_b (uR h167 x163 5 25 (n + 158) 1) fun h168 =>
  z_b (gR h168 v0 9 2) fun x169 =>
  z_b (zD h168 (n + 163)) fun u170 =>
  z_b (some (z_up h168 (n + 164) (.inr (1, [.null, .null, .null, .int 0, .int 0, .int 0, .int 0, .int 0, .int 0, .int 0, .int 0, .int 0, .int 0, .int 0, .int 0, .int 0])))) fun h171 =>
  z_b (zD h171 (n + 164)) fun u172 =>
  z_b (f_Cmd_init N (n + 164) h171 (n + 165)) fun h173 =>
  z_b (uR h173 x169 5 26 (n + 164) 1) fun h174 =>
  z_b (gR h174 v0 9 2) fun x175 =>
  z_b (zD h174 (n + 169)) fun u176 =>
  z_b (some (z_up h174 (n + 170) (.inr (1, [.null, .null, .null, .int 0, .int 0, .int 0, .int 0, .int 0, .int 0, .int 0, .int 0, .int 0, .int 0, .int 0, .int 0, .int 0])))) fun h177 =>
  z_b (zD h177 (n + 170)) fun u178 =>
  z_b (f_Cmd_init N (n + 170) h177 (n + 171)) fun h179 =>
  z_b (uR h179 x175 5 27 (n + 170) 1) fun h180 =>
  z_b (gR h180 v0 9 2) fun x181 =>
  z_b (zD h180 (n + 175)) fun u182 =>
  z_b (some (z_up h180 (n + 176) (.inr (1, [.null, .null, .null, .int 0, .int 0, .int 0, .int 0, .int 0, .int 0, .int 0, .int 0, .int 0, .int 0, .int 0, .int 0, .int 0])))) fun h183 =>
  z_b (zD h183 (n + 176)) fun u184 =>
  z_b (f_Cmd_init N (n + 176) h183 (n + 177)) fun h185 =>
  z_b (uR h185 x181 5 28 (n + 176) 1) fun h186 =>
  z_b (gR h186 v0 9 2) fun x187 =>
  z_b (zD h186 (n + 181)) fun u188 =>
  z_b (some (z_up h186 (n + 182) (.inr (1, [.null, .null, .null, .int 0, .int 0, .int 0, .int 0, .int 0, .int 0, .int 0, .int 0, .int 0, .int 0, .int 0, .int 0, .int 0])))) fun h189 =>
  z_b (zD h189 (n + 182)) fun u190 =>
  z_b (f_Cmd_init N (n + 182) h189 (n + 183)) fun h191 =>
  z_b (uR h191 x187 5 29 (n + 182) 1) fun h192 =>
  z_b (gR h192 v0 9 2) fun x193 =>
  z_b (zD h192 (n + 187)) fun u194 =>
  z_b (some (z_up h192 (n + 188) (.inr (1, [.null, .null, .null, .int 0, .int 0, .int 0, .int 0, .int 0, .int 0, .int 0, .int 0, .int 0, .int 0, .int 0, .int 0, .int 0])))) fun h195 =>
  z_b (zD h195 (n + 188)) fun u196 =>
  z_b (f_Cmd_init N (n + 188) h195 (n + 189)) fun h197 =>
  z_b (uR h197 x193 5 30 (n + 188) 1) fun h198 =>
  z_b (gR h198 v0 9 2) fun x199 =>
  z_b (zD h198 (n + 193)) fun u200 =>
  z_b (some (z_up h198 (n + 194) (.inr (1, [.null, .null, .null, .int 0, .int 0, .int 0, .int 0, .int 0, .int 0, .int 0, .int 0, .int 0, .int 0, .int 0, .int 0, .int 0])))) fun h201 =>
  z_b (zD h201 (n + 194)) fun u202 =>
  z_b (f_Cmd_init N (n + 194) h201 (n + 195)) fun h203 =>
  z_b (uR h203 x199 5 31 (n + 194) 1) fun h204 =>
  z_b (gR h204 v0 9 2) fun x205 =>
  z_b (zD h204 (n + 199)) fun u206 =>
  z_b (some (z_up h204 (n + 200) (.inr (1, [.null, .null, .null, .int 0, .int 0, .int 0, .int 0, .int 0, .int 0, .int 0, .int 0, .int 0, .int 0, .int 0, .int 0, .int 0])))) fun h207 =>
  z_b (zD h207 (n + 200)) fun u208 =>
  z_b (f_Cmd_init N (n + 200) h207 (n + 201)) fun h209 =>
  z_b (uR h209 x205 5 32 (n + 200) 1) fun h210 =>
  z_b (gR h210 v0 9 2) fun x211 =>
  z_b (zD h210 (n + 205)) fun u212 =>
  z_b (some (z_up h210 (n + 206) (.inr (1, [.null, .null, .null, .int 0, .int 0, .int 0, .int 0, .int 0, .int 0, .int 0, .int 0, .int 0, .int 0, .int 0, .int 0, .int 0])))) fun h213 =>
  z_b (zD h213 (n + 206)) fun u214 =>
  z_b (f_Cmd_init N (n + 206) h213 (n + 207)) fun h215 =>
  z_b (uR h215 x211 5 33 (n + 206) 1) fun h216 =>
  z_b (gR h216 v0 9 2) fun x217 =>
  z_b (zD h216 (n + 211)) fun u218 =>
  z_b (some (z_up h216 (n + 212) (.inr (1, [.null, .null, .null, .int 0, .int 0, .int 0, .int 0, .int 0, .int 0, .int 0, .int 0, .int 0, .int 0, .int 0, .int 0, .int 0])))) fun h219 =>
  z_b (zD h219 (n + 212)) fun u220 =>
  z_b (f_Cmd_init N (n + 212) h219 (n + 213)) fun h221 =>
  z_b (uR h221 x217 5 34 (n + 212) 1) fun h222 =>
  z_b (gR h222 v0 9 2) fun x223 =>
  z_b (zD h222 (n + 217)) fun u224 =>
  z_b (some (z_up h222 (n + 218) (.inr (1, [.null, .null, .null, .int 0, .int 0, .int 0, .int 0, .int 0, .int 0, .int 0, .int 0, .int 0, .int 0, .int 0, .int 0, .int 0])))) fun h225 =>
  z_b (zD h225 (n + 218)) fun u226 =>
  z_b (f_Cmd_init N (n + 218) h225 (n + 219)) fun h227 =>
  z_b (uR h227 x223 5 35 (n + 218) 1) fun h228 =>
  z_b (gR h228 v0 9 2) fun x229 =>
  z_b (zD h228 (n + 223)) fun u230 =>
  z_b (some (z_up h228 (n + 224) (.inr (1, [.null, .null, .null, .int 0, .int 0, .int 0, .int 0, .int 0, .int 0, .int 0, .int 0, .int 0, .int 0, .int 0, .int 0, .int 0])))) fun h231 =>
  z_b (zD h231 (n + 224)) fun u232 =>
  z_b (f_Cmd_init N (n + 224) h231 (n + 225)) fun h233 =>
  z_b (uR h233 x229 5 36 (n + 224) 1) fun h234 =>
  z_b (gR h234 v0 9 2) fun x235 =>
  z_b (zD h234 (n + 229)) fun u236 =>
  z_b (some (z_up h234 (n + 230) (.inr (1, [.null, .null, .null, .int 0, .int 0, .int 0, .int 0, .int 0, .int 0, .int 0, .int 0, .int 0, .int 0, .int 0, .int 0, .int 0])))) fun h237 =>
  z_b (zD h237 (n + 230)) fun u238 =>
  z_b (f_Cmd_init N (n + 230) h237 (n + 231)) fun h239 =>
  z_b (uR h239 x235 5 37 (n + 230) 1) fun h240 =>
  z_b (gR h240 v0 9 2) fun x241 =>
  z_b (zD h240 (n + 235)) fun u242 =>
  z_b (some (z_up h240 (n + 236) (.inr (1, [.null, .null, .null, .int 0, .int 0, .int 0, .int 0, .int 0, .int 0, .int 0, .int 0, .int 0, .int 0, .int 0, .int 0, .int 0])))) fun h243 =>
  z_b (zD h243 (n + 236)) fun u244 =>
  z_b (f_Cmd_init N (n + 236) h243 (n + 237)) fun h245 =>
  z_b (uR h245 x241 5 38 (n + 236) 1) fun h246 =>
  z_b (gR h246 v0 9 2) fun x247 =>
  z_b (zD h246 (n + 241)) fun u248 =>
  z_b (some (z_up h246 (n + 242) (.inr (1, [.null, .null, .null, .int 0, .int 0, .int 0, .int 0, .int 0, .int 0, .int 0, .int 0, .int 0, .int 0, .int 0, .int 0, .int 0])))) fun h249 =>
  z_b (zD h249 (n + 242)) fun u250 =>
  z_b (f_Cmd_init N (n + 242) h249 (n + 243)) fun h251 =>
  z_b (uR h251 x247 5 39 (n + 242) 1) fun h252 =>
  z_b (zD h252 (n + 247)) fun u253 =>
  some h252
set_option maxRecDepth 20000 in
set_option maxHeartbeats 8000000 in
theorem s_Prog_init {l : Launch} {D : va_G} {dA : Nat → ClassId} {B N n : Nat} {v0 : Nat} {h h' : z_H} (hf : f_Prog_init N v0 h n = some h') : zn_Met l y_Prog_init prog_11_method_1_code 2 4 80 248 (2967) D dA B [.ref v0] h n h' := by
  refine zn_of (by decide) (Nat.le_of_ble_eq_true rfl) (fun p e s m below meth c ls X hname hF hn0 hI hl => ?_)
  have hx := z_hx X
  have hb := z_hb X
  have hl : lv_has ls 2 [(0, .ref v0)] := hl
  unfold f_Prog_init at hf
  obtain ⟨locs, hlo⟩ : ∃ z : List Loc, z = [] := ⟨_, rfl⟩
  rw [← hlo] at hI ⊢
  refine lv_aload_n hx hb d_Prog_init_0 rfl (lv_at hl 0 rfl) ?_
  refine W.objInit hx hb X.1.2.2.2.1 (z_w X wo_Prog_3) (z_w X wo_i) (z_w X wo_c) rfl (hl.1.trans X.1.2.2.1.symm) rfl d_Prog_init_1 (Nat.le_of_ble_eq_true rfl) (Nat.le_of_ble_eq_true rfl) ?_
  refine W.eq (g2 := F0 m 4 ls []) rfl ?_
  refine lv_aload_n hx hb d_Prog_init_4 rfl (lv_at hl 0 rfl) ?_
  refine z_size (n := n) hI (by omega) (Or.inl hn0.symm) (fun hn => ?_)
  obtain ⟨h1, eh1, hf⟩ := z_bs hf
  refine z_new (n := n) (ci := 10) (fs := [.null, .int 0]) (ty0 := t_Row) X hI hn i_Row t_Row_ok rfl wk_Prog_9 wn_Row wz_Row (by decide +kernel) (by decide) d_Prog_init_5 (fun H hI hn => ?_)
  rw [Option.some.inj eh1] at hI
  refine W.widen (k := 1) (n := 2) (by decide) (by decide) ?_
  refine lv_dup hx hb d_Prog_init_8 rfl ?_
  refine lv_sipush (v := 240) hx hb d_Prog_init_9 (by decide) ?_
  obtain ⟨u2, eu2, hf⟩ := z_bs hf
  refine z_size (n := n + 1) hI (by omega) (Or.inr (zD_s eu2)) (fun hn => ?_)
  obtain ⟨h3, eh3, hf⟩ := z_bs hf
  refine zn_callI (n := (n + 1)) (mc := 1) (ms := (240 : Int32).toNatClampNeg) (As := [.int 240]) (rest := [.ref n, .ref v0]) (h' := h3) X hF hI hn (s_Row_init eh3) wm_Prog_11 yn_Row_init rfl hl.1 rfl (Nat.le_of_ble_eq_true rfl) (by decide) (by decide) d_Prog_init_12 (fun H locs hI hn => ?_)
  refine W.widen (k := 2) (n := 242) (by decide) (by decide) ?_
  obtain ⟨h4, eh4, hf⟩ := z_bs hf
  refine zn_putF X hname hI (k := 0) (ci := 9) (ty0 := t_Prog) eh4 i_Prog t_Prog_ok n_Prog rfl (by decide) wf_Prog_14 rfl rfl rfl rfl d_Prog_init_15 (fun H locs hI => ?_)
  refine lv_aload_n hx hb d_Prog_init_18 rfl (lv_at hl 0 rfl) ?_
  obtain ⟨u5, eu5, hf⟩ := z_bs hf
  refine z_size (n := n + 2) hI (by omega) (Or.inr (zD_s eu5)) (fun hn => ?_)
  obtain ⟨h6, eh6, hf⟩ := z_bs hf
  refine z_new (n := (n + 2)) (ci := 4) (fs := [.null, .null, .null, .null, .int 0]) (ty0 := t_It) X hI hn i_It t_It_ok rfl wk_Prog_20 wn_It wz_It (by decide +kernel) (by decide) d_Prog_init_19 (fun H hI hn => ?_)
  rw [Option.some.inj eh6] at hI
  refine W.widen (k := 3) (n := 247) (by decide) (by decide) ?_
  refine lv_dup hx hb d_Prog_init_22 rfl ?_
  obtain ⟨u7, eu7, hf⟩ := z_bs hf
  refine z_size (n := n + 3) hI (by omega) (Or.inr (zD_s eu7)) (fun hn => ?_)
  obtain ⟨h8, eh8, hf⟩ := z_bs hf
  refine zn_callN (n := (n + 3)) (mc := 4) (ms := 960) (As := []) (rest := [.ref (n + 2), .ref v0]) (h' := h8) X hF hI hn (s_It_init eh8) (List.mem_of_getElem? (i := 5) rfl) yn_It_init rfl hl.1 rfl (Nat.le_of_ble_eq_true rfl) (by decide) (by decide) d_Prog_init_23 (fun H locs hI hn => ?_)
  refine W.widen (k := 7) (n := 1207) (by decide) (by decide) ?_
  obtain ⟨h9, eh9, hf⟩ := z_bs hf
  refine zn_putF X hname hI (k := 1) (ci := 9) (ty0 := t_Prog) eh9 i_Prog t_Prog_ok n_Prog rfl (by decide) wf_Prog_23 rfl rfl rfl rfl d_Prog_init_26 (fun H locs hI => ?_)
  refine lv_aload_n hx hb d_Prog_init_29 rfl (lv_at hl 0 rfl) ?_
  refine lv_bipush (v := 40) hx hb d_Prog_init_30 (by decide) ?_
  obtain ⟨u10, eu10, hf⟩ := z_bs hf
  refine z_size (n := n + 7) hI (by omega) (Or.inr (zD_s eu10)) (fun hn => ?_)
  obtain ⟨h11, eh11, hf⟩ := z_bs hf
  refine z_anew (n := (n + 7)) (t := 5) (N := 40) X hI hn rfl wk_Prog_27 hF.2.2 (by decide) (by decide) (by decide) (by decide) d_Prog_init_32 (fun H hI hn => ?_)
  rw [Option.some.inj eh11] at hI
  refine W.widen (k := 8) (n := 1247) (by decide) (by decide) ?_
  obtain ⟨h12, eh12, hf⟩ := z_bs hf
  refine zn_putF X hname hI (k := 2) (ci := 9) (ty0 := t_Prog) eh12 i_Prog t_Prog_ok n_Prog rfl (by decide) wf_Prog_29 rfl rfl rfl rfl d_Prog_init_35 (fun H locs hI => ?_)
  refine lv_iconst (v := 0) hx hb d_Prog_init_38 (by decide) ?_
  refine lv_istore_n (lv' := [(1, .int 0), (0, .ref v0)]) hx hb d_Prog_init_39 rfl hl (by decide) rfl (fun ls hl => ?_)
  refine lv_iload_n hx hb d_Prog_init_40 rfl (lv_at hl 0 rfl) ?_
  refine lv_bipush (v := 40) hx hb d_Prog_init_41 (by decide) ?_
  refine lv_icmp_ge (tgt := 65) hx hb d_Prog_init_43 (by decide) (fun c9 => absurd c9 (by decide)) (fun _ => ?_)
  refine lv_aload_n hx hb d_Prog_init_46 rfl (lv_at hl 1 rfl) ?_
  obtain ⟨x13, ex13, hf⟩ := z_bs hf
  refine z_getF X hI (k := 2) (ci := 9) (gR_s ex13) i_Prog rfl (by decide) wf_Prog_29 d_Prog_init_47 ?_
  refine lv_iload_n hx hb d_Prog_init_50 rfl (lv_at hl 0 rfl) ?_
  obtain ⟨u14, eu14, hf⟩ := z_bs hf
  refine z_size (n := n + 8) hI (by omega) (Or.inr (zD_s eu14)) (fun hn => ?_)
  obtain ⟨h15, eh15, hf⟩ := z_bs hf
  refine z_new (n := (n + 8)) (ci := 1) (fs := [.null, .null, .null, .int 0, .int 0, .int 0, .int 0, .int 0, .int 0, .int 0, .int 0, .int 0, .int 0, .int 0, .int 0, .int 0]) (ty0 := t_Cmd) X hI hn i_Cmd t_Cmd_ok rfl wk_Prog_27 wn_Cmd wz_Cmd (by decide +kernel) (by decide) d_Prog_init_51 (fun H hI hn => ?_)
  rw [Option.some.inj eh15] at hI
  refine W.widen (k := 9) (n := 1263) (by decide) (by decide) ?_
  refine lv_dup hx hb d_Prog_init_54 rfl ?_
  obtain ⟨u16, eu16, hf⟩ := z_bs hf
  refine z_size (n := n + 9) hI (by omega) (Or.inr (zD_s eu16)) (fun hn => ?_)
  obtain ⟨h17, eh17, hf⟩ := z_bs hf
  refine zn_callN (n := (n + 9)) (mc := 5) (ms := 27) (As := []) (rest := [.ref (n + 8), .int 0, .ref x13]) (h' := h17) X hF hI hn (s_Cmd_init eh17) (List.mem_of_getElem? (i := 6) rfl) yn_Cmd_init rfl hl.1 rfl (Nat.le_of_ble_eq_true rfl) (by decide) (by decide) d_Prog_init_55 (fun H locs hI hn => ?_)
  refine W.widen (k := 14) (n := 1290) (by decide) (by decide) ?_
  obtain ⟨h18, eh18, hf⟩ := z_bs hf
  refine z_aast X hI eh18 rfl rfl d_Prog_init_58 (fun H locs hI => ?_)
  refine lv_iinc (v := 1) (lv' := [(1, .int 1), (0, .ref v0)]) hx hb d_Prog_init_59 hl (k := 0) rfl (by decide) (by decide) rfl (fun ls hl => ?_)
  refine lv_goto (tgt := 40) hx hb d_Prog_init_62 (by decide) ?_
  refine lv_iload_n hx hb d_Prog_init_40 rfl (lv_at hl 0 rfl) ?_
  refine lv_bipush (v := 40) hx hb d_Prog_init_41 (by decide) ?_
  refine lv_icmp_ge (tgt := 65) hx hb d_Prog_init_43 (by decide) (fun c9 => absurd c9 (by decide)) (fun _ => ?_)
  refine lv_aload_n hx hb d_Prog_init_46 rfl (lv_at hl 1 rfl) ?_
  obtain ⟨x19, ex19, hf⟩ := z_bs hf
  refine z_getF X hI (k := 2) (ci := 9) (gR_s ex19) i_Prog rfl (by decide) wf_Prog_29 d_Prog_init_47 ?_
  refine lv_iload_n hx hb d_Prog_init_50 rfl (lv_at hl 0 rfl) ?_
  obtain ⟨u20, eu20, hf⟩ := z_bs hf
  refine z_size (n := n + 14) hI (by omega) (Or.inr (zD_s eu20)) (fun hn => ?_)
  obtain ⟨h21, eh21, hf⟩ := z_bs hf
  refine z_new (n := (n + 14)) (ci := 1) (fs := [.null, .null, .null, .int 0, .int 0, .int 0, .int 0, .int 0, .int 0, .int 0, .int 0, .int 0, .int 0, .int 0, .int 0, .int 0]) (ty0 := t_Cmd) X hI hn i_Cmd t_Cmd_ok rfl wk_Prog_27 wn_Cmd wz_Cmd (by decide +kernel) (by decide) d_Prog_init_51 (fun H hI hn => ?_)
  rw [Option.some.inj eh21] at hI
  refine W.widen (k := 15) (n := 1306) (by decide) (by decide) ?_
  refine lv_dup hx hb d_Prog_init_54 rfl ?_
  obtain ⟨u22, eu22, hf⟩ := z_bs hf
  refine z_size (n := n + 15) hI (by omega) (Or.inr (zD_s eu22)) (fun hn => ?_)
  obtain ⟨h23, eh23, hf⟩ := z_bs hf
  refine zn_callN (n := (n + 15)) (mc := 5) (ms := 27) (As := []) (rest := [.ref (n + 14), .int 1, .ref x19]) (h' := h23) X hF hI hn (s_Cmd_init eh23) (List.mem_of_getElem? (i := 6) rfl) yn_Cmd_init rfl hl.1 rfl (Nat.le_of_ble_eq_true rfl) (by decide) (by decide) d_Prog_init_55 (fun H locs hI hn => ?_)
  refine W.widen (k := 20) (n := 1333) (by decide) (by decide) ?_
  obtain ⟨h24, eh24, hf⟩ := z_bs hf
  refine z_aast X hI eh24 rfl rfl d_Prog_init_58 (fun H locs hI => ?_)
  refine lv_iinc (v := 2) (lv' := [(1, .int 2), (0, .ref v0)]) hx hb d_Prog_init_59 hl (k := 0) rfl (by decide) (by decide) rfl (fun ls hl => ?_)
  refine lv_goto (tgt := 40) hx hb d_Prog_init_62 (by decide) ?_
  refine lv_iload_n hx hb d_Prog_init_40 rfl (lv_at hl 0 rfl) ?_
  refine lv_bipush (v := 40) hx hb d_Prog_init_41 (by decide) ?_
  refine lv_icmp_ge (tgt := 65) hx hb d_Prog_init_43 (by decide) (fun c9 => absurd c9 (by decide)) (fun _ => ?_)
  refine lv_aload_n hx hb d_Prog_init_46 rfl (lv_at hl 1 rfl) ?_
  obtain ⟨x25, ex25, hf⟩ := z_bs hf
  refine z_getF X hI (k := 2) (ci := 9) (gR_s ex25) i_Prog rfl (by decide) wf_Prog_29 d_Prog_init_47 ?_
  refine lv_iload_n hx hb d_Prog_init_50 rfl (lv_at hl 0 rfl) ?_
  obtain ⟨u26, eu26, hf⟩ := z_bs hf
  refine z_size (n := n + 20) hI (by omega) (Or.inr (zD_s eu26)) (fun hn => ?_)
  obtain ⟨h27, eh27, hf⟩ := z_bs hf
  refine z_new (n := (n + 20)) (ci := 1) (fs := [.null, .null, .null, .int 0, .int 0, .int 0, .int 0, .int 0, .int 0, .int 0, .int 0, .int 0, .int 0, .int 0, .int 0, .int 0]) (ty0 := t_Cmd) X hI hn i_Cmd t_Cmd_ok rfl wk_Prog_27 wn_Cmd wz_Cmd (by decide +kernel) (by decide) d_Prog_init_51 (fun H hI hn => ?_)
  rw [Option.some.inj eh27] at hI
  refine W.widen (k := 21) (n := 1349) (by decide) (by decide) ?_
  refine lv_dup hx hb d_Prog_init_54 rfl ?_
  obtain ⟨u28, eu28, hf⟩ := z_bs hf
  refine z_size (n := n + 21) hI (by omega) (Or.inr (zD_s eu28)) (fun hn => ?_)
  obtain ⟨h29, eh29, hf⟩ := z_bs hf
  refine zn_callN (n := (n + 21)) (mc := 5) (ms := 27) (As := []) (rest := [.ref (n + 20), .int 2, .ref x25]) (h' := h29) X hF hI hn (s_Cmd_init eh29) (List.mem_of_getElem? (i := 6) rfl) yn_Cmd_init rfl hl.1 rfl (Nat.le_of_ble_eq_true rfl) (by decide) (by decide) d_Prog_init_55 (fun H locs hI hn => ?_)
  refine W.widen (k := 26) (n := 1376) (by decide) (by decide) ?_
  obtain ⟨h30, eh30, hf⟩ := z_bs hf
  refine z_aast X hI eh30 rfl rfl d_Prog_init_58 (fun H locs hI => ?_)
  refine lv_iinc (v := 3) (lv' := [(1, .int 3), (0, .ref v0)]) hx hb d_Prog_init_59 hl (k := 0) rfl (by decide) (by decide) rfl (fun ls hl => ?_)
  refine lv_goto (tgt := 40) hx hb d_Prog_init_62 (by decide) ?_
  refine lv_iload_n hx hb d_Prog_init_40 rfl (lv_at hl 0 rfl) ?_
  refine lv_bipush (v := 40) hx hb d_Prog_init_41 (by decide) ?_
  refine lv_icmp_ge (tgt := 65) hx hb d_Prog_init_43 (by decide) (fun c9 => absurd c9 (by decide)) (fun _ => ?_)
  refine lv_aload_n hx hb d_Prog_init_46 rfl (lv_at hl 1 rfl) ?_
  obtain ⟨x31, ex31, hf⟩ := z_bs hf
  refine z_getF X hI (k := 2) (ci := 9) (gR_s ex31) i_Prog rfl (by decide) wf_Prog_29 d_Prog_init_47 ?_
  refine lv_iload_n hx hb d_Prog_init_50 rfl (lv_at hl 0 rfl) ?_
  obtain ⟨u32, eu32, hf⟩ := z_bs hf
  refine z_size (n := n + 26) hI (by omega) (Or.inr (zD_s eu32)) (fun hn => ?_)
  obtain ⟨h33, eh33, hf⟩ := z_bs hf
  refine z_new (n := (n + 26)) (ci := 1) (fs := [.null, .null, .null, .int 0, .int 0, .int 0, .int 0, .int 0, .int 0, .int 0, .int 0, .int 0, .int 0, .int 0, .int 0, .int 0]) (ty0 := t_Cmd) X hI hn i_Cmd t_Cmd_ok rfl wk_Prog_27 wn_Cmd wz_Cmd (by decide +kernel) (by decide) d_Prog_init_51 (fun H hI hn => ?_)
  rw [Option.some.inj eh33] at hI
  refine W.widen (k := 27) (n := 1392) (by decide) (by decide) ?_
  refine lv_dup hx hb d_Prog_init_54 rfl ?_
  obtain ⟨u34, eu34, hf⟩ := z_bs hf
  refine z_size (n := n + 27) hI (by omega) (Or.inr (zD_s eu34)) (fun hn => ?_)
  obtain ⟨h35, eh35, hf⟩ := z_bs hf
  refine zn_callN (n := (n + 27)) (mc := 5) (ms := 27) (As := []) (rest := [.ref (n + 26), .int 3, .ref x31]) (h' := h35) X hF hI hn (s_Cmd_init eh35) (List.mem_of_getElem? (i := 6) rfl) yn_Cmd_init rfl hl.1 rfl (Nat.le_of_ble_eq_true rfl) (by decide) (by decide) d_Prog_init_55 (fun H locs hI hn => ?_)
  refine W.widen (k := 32) (n := 1419) (by decide) (by decide) ?_
  obtain ⟨h36, eh36, hf⟩ := z_bs hf
  refine z_aast X hI eh36 rfl rfl d_Prog_init_58 (fun H locs hI => ?_)
  refine lv_iinc (v := 4) (lv' := [(1, .int 4), (0, .ref v0)]) hx hb d_Prog_init_59 hl (k := 0) rfl (by decide) (by decide) rfl (fun ls hl => ?_)
  refine lv_goto (tgt := 40) hx hb d_Prog_init_62 (by decide) ?_
  refine lv_iload_n hx hb d_Prog_init_40 rfl (lv_at hl 0 rfl) ?_
  refine lv_bipush (v := 40) hx hb d_Prog_init_41 (by decide) ?_
  refine lv_icmp_ge (tgt := 65) hx hb d_Prog_init_43 (by decide) (fun c9 => absurd c9 (by decide)) (fun _ => ?_)
  refine lv_aload_n hx hb d_Prog_init_46 rfl (lv_at hl 1 rfl) ?_
  obtain ⟨x37, ex37, hf⟩ := z_bs hf
  refine z_getF X hI (k := 2) (ci := 9) (gR_s ex37) i_Prog rfl (by decide) wf_Prog_29 d_Prog_init_47 ?_
  refine lv_iload_n hx hb d_Prog_init_50 rfl (lv_at hl 0 rfl) ?_
  obtain ⟨u38, eu38, hf⟩ := z_bs hf
  refine z_size (n := n + 32) hI (by omega) (Or.inr (zD_s eu38)) (fun hn => ?_)
  obtain ⟨h39, eh39, hf⟩ := z_bs hf
  refine z_new (n := (n + 32)) (ci := 1) (fs := [.null, .null, .null, .int 0, .int 0, .int 0, .int 0, .int 0, .int 0, .int 0, .int 0, .int 0, .int 0, .int 0, .int 0, .int 0]) (ty0 := t_Cmd) X hI hn i_Cmd t_Cmd_ok rfl wk_Prog_27 wn_Cmd wz_Cmd (by decide +kernel) (by decide) d_Prog_init_51 (fun H hI hn => ?_)
  rw [Option.some.inj eh39] at hI
  refine W.widen (k := 33) (n := 1435) (by decide) (by decide) ?_
  refine lv_dup hx hb d_Prog_init_54 rfl ?_
  obtain ⟨u40, eu40, hf⟩ := z_bs hf
  refine z_size (n := n + 33) hI (by omega) (Or.inr (zD_s eu40)) (fun hn => ?_)
  obtain ⟨h41, eh41, hf⟩ := z_bs hf
  refine zn_callN (n := (n + 33)) (mc := 5) (ms := 27) (As := []) (rest := [.ref (n + 32), .int 4, .ref x37]) (h' := h41) X hF hI hn (s_Cmd_init eh41) (List.mem_of_getElem? (i := 6) rfl) yn_Cmd_init rfl hl.1 rfl (Nat.le_of_ble_eq_true rfl) (by decide) (by decide) d_Prog_init_55 (fun H locs hI hn => ?_)
  refine W.widen (k := 38) (n := 1462) (by decide) (by decide) ?_
  obtain ⟨h42, eh42, hf⟩ := z_bs hf
  refine z_aast X hI eh42 rfl rfl d_Prog_init_58 (fun H locs hI => ?_)
  refine lv_iinc (v := 5) (lv' := [(1, .int 5), (0, .ref v0)]) hx hb d_Prog_init_59 hl (k := 0) rfl (by decide) (by decide) rfl (fun ls hl => ?_)
  refine lv_goto (tgt := 40) hx hb d_Prog_init_62 (by decide) ?_
  refine lv_iload_n hx hb d_Prog_init_40 rfl (lv_at hl 0 rfl) ?_
  refine lv_bipush (v := 40) hx hb d_Prog_init_41 (by decide) ?_
  refine lv_icmp_ge (tgt := 65) hx hb d_Prog_init_43 (by decide) (fun c9 => absurd c9 (by decide)) (fun _ => ?_)
  refine lv_aload_n hx hb d_Prog_init_46 rfl (lv_at hl 1 rfl) ?_
  obtain ⟨x43, ex43, hf⟩ := z_bs hf
  refine z_getF X hI (k := 2) (ci := 9) (gR_s ex43) i_Prog rfl (by decide) wf_Prog_29 d_Prog_init_47 ?_
  refine lv_iload_n hx hb d_Prog_init_50 rfl (lv_at hl 0 rfl) ?_
  obtain ⟨u44, eu44, hf⟩ := z_bs hf
  refine z_size (n := n + 38) hI (by omega) (Or.inr (zD_s eu44)) (fun hn => ?_)
  obtain ⟨h45, eh45, hf⟩ := z_bs hf
  refine z_new (n := (n + 38)) (ci := 1) (fs := [.null, .null, .null, .int 0, .int 0, .int 0, .int 0, .int 0, .int 0, .int 0, .int 0, .int 0, .int 0, .int 0, .int 0, .int 0]) (ty0 := t_Cmd) X hI hn i_Cmd t_Cmd_ok rfl wk_Prog_27 wn_Cmd wz_Cmd (by decide +kernel) (by decide) d_Prog_init_51 (fun H hI hn => ?_)
  rw [Option.some.inj eh45] at hI
  refine W.widen (k := 39) (n := 1478) (by decide) (by decide) ?_
  refine lv_dup hx hb d_Prog_init_54 rfl ?_
  obtain ⟨u46, eu46, hf⟩ := z_bs hf
  refine z_size (n := n + 39) hI (by omega) (Or.inr (zD_s eu46)) (fun hn => ?_)
  obtain ⟨h47, eh47, hf⟩ := z_bs hf
  refine zn_callN (n := (n + 39)) (mc := 5) (ms := 27) (As := []) (rest := [.ref (n + 38), .int 5, .ref x43]) (h' := h47) X hF hI hn (s_Cmd_init eh47) (List.mem_of_getElem? (i := 6) rfl) yn_Cmd_init rfl hl.1 rfl (Nat.le_of_ble_eq_true rfl) (by decide) (by decide) d_Prog_init_55 (fun H locs hI hn => ?_)
  refine W.widen (k := 44) (n := 1505) (by decide) (by decide) ?_
  obtain ⟨h48, eh48, hf⟩ := z_bs hf
  refine z_aast X hI eh48 rfl rfl d_Prog_init_58 (fun H locs hI => ?_)
  refine lv_iinc (v := 6) (lv' := [(1, .int 6), (0, .ref v0)]) hx hb d_Prog_init_59 hl (k := 0) rfl (by decide) (by decide) rfl (fun ls hl => ?_)
  refine lv_goto (tgt := 40) hx hb d_Prog_init_62 (by decide) ?_
  refine lv_iload_n hx hb d_Prog_init_40 rfl (lv_at hl 0 rfl) ?_
  refine lv_bipush (v := 40) hx hb d_Prog_init_41 (by decide) ?_
  refine lv_icmp_ge (tgt := 65) hx hb d_Prog_init_43 (by decide) (fun c9 => absurd c9 (by decide)) (fun _ => ?_)
  refine lv_aload_n hx hb d_Prog_init_46 rfl (lv_at hl 1 rfl) ?_
  obtain ⟨x49, ex49, hf⟩ := z_bs hf
  refine z_getF X hI (k := 2) (ci := 9) (gR_s ex49) i_Prog rfl (by decide) wf_Prog_29 d_Prog_init_47 ?_
  refine lv_iload_n hx hb d_Prog_init_50 rfl (lv_at hl 0 rfl) ?_
  obtain ⟨u50, eu50, hf⟩ := z_bs hf
  refine z_size (n := n + 44) hI (by omega) (Or.inr (zD_s eu50)) (fun hn => ?_)
  obtain ⟨h51, eh51, hf⟩ := z_bs hf
  refine z_new (n := (n + 44)) (ci := 1) (fs := [.null, .null, .null, .int 0, .int 0, .int 0, .int 0, .int 0, .int 0, .int 0, .int 0, .int 0, .int 0, .int 0, .int 0, .int 0]) (ty0 := t_Cmd) X hI hn i_Cmd t_Cmd_ok rfl wk_Prog_27 wn_Cmd wz_Cmd (by decide +kernel) (by decide) d_Prog_init_51 (fun H hI hn => ?_)
  rw [Option.some.inj eh51] at hI
  refine W.widen (k := 45) (n := 1521) (by decide) (by decide) ?_
  refine lv_dup hx hb d_Prog_init_54 rfl ?_
  obtain ⟨u52, eu52, hf⟩ := z_bs hf
  refine z_size (n := n + 45) hI (by omega) (Or.inr (zD_s eu52)) (fun hn => ?_)
  obtain ⟨h53, eh53, hf⟩ := z_bs hf
  refine zn_callN (n := (n + 45)) (mc := 5) (ms := 27) (As := []) (rest := [.ref (n + 44), .int 6, .ref x49]) (h' := h53) X hF hI hn (s_Cmd_init eh53) (List.mem_of_getElem? (i := 6) rfl) yn_Cmd_init rfl hl.1 rfl (Nat.le_of_ble_eq_true rfl) (by decide) (by decide) d_Prog_init_55 (fun H locs hI hn => ?_)
  refine W.widen (k := 50) (n := 1548) (by decide) (by decide) ?_
  obtain ⟨h54, eh54, hf⟩ := z_bs hf
  refine z_aast X hI eh54 rfl rfl d_Prog_init_58 (fun H locs hI => ?_)
  refine lv_iinc (v := 7) (lv' := [(1, .int 7), (0, .ref v0)]) hx hb d_Prog_init_59 hl (k := 0) rfl (by decide) (by decide) rfl (fun ls hl => ?_)
  refine lv_goto (tgt := 40) hx hb d_Prog_init_62 (by decide) ?_
  refine lv_iload_n hx hb d_Prog_init_40 rfl (lv_at hl 0 rfl) ?_
  refine lv_bipush (v := 40) hx hb d_Prog_init_41 (by decide) ?_
  refine lv_icmp_ge (tgt := 65) hx hb d_Prog_init_43 (by decide) (fun c9 => absurd c9 (by decide)) (fun _ => ?_)
  refine lv_aload_n hx hb d_Prog_init_46 rfl (lv_at hl 1 rfl) ?_
  obtain ⟨x55, ex55, hf⟩ := z_bs hf
  refine z_getF X hI (k := 2) (ci := 9) (gR_s ex55) i_Prog rfl (by decide) wf_Prog_29 d_Prog_init_47 ?_
  refine lv_iload_n hx hb d_Prog_init_50 rfl (lv_at hl 0 rfl) ?_
  obtain ⟨u56, eu56, hf⟩ := z_bs hf
  refine z_size (n := n + 50) hI (by omega) (Or.inr (zD_s eu56)) (fun hn => ?_)
  obtain ⟨h57, eh57, hf⟩ := z_bs hf
  refine z_new (n := (n + 50)) (ci := 1) (fs := [.null, .null, .null, .int 0, .int 0, .int 0, .int 0, .int 0, .int 0, .int 0, .int 0, .int 0, .int 0, .int 0, .int 0, .int 0]) (ty0 := t_Cmd) X hI hn i_Cmd t_Cmd_ok rfl wk_Prog_27 wn_Cmd wz_Cmd (by decide +kernel) (by decide) d_Prog_init_51 (fun H hI hn => ?_)
  rw [Option.some.inj eh57] at hI
  refine W.widen (k := 51) (n := 1564) (by decide) (by decide) ?_
  refine lv_dup hx hb d_Prog_init_54 rfl ?_
  obtain ⟨u58, eu58, hf⟩ := z_bs hf
  refine z_size (n := n + 51) hI (by omega) (Or.inr (zD_s eu58)) (fun hn => ?_)
  obtain ⟨h59, eh59, hf⟩ := z_bs hf
  refine zn_callN (n := (n + 51)) (mc := 5) (ms := 27) (As := []) (rest := [.ref (n + 50), .int 7, .ref x55]) (h' := h59) X hF hI hn (s_Cmd_init eh59) (List.mem_of_getElem? (i := 6) rfl) yn_Cmd_init rfl hl.1 rfl (Nat.le_of_ble_eq_true rfl) (by decide) (by decide) d_Prog_init_55 (fun H locs hI hn => ?_)
  refine W.widen (k := 56) (n := 1591) (by decide) (by decide) ?_
  obtain ⟨h60, eh60, hf⟩ := z_bs hf
  refine z_aast X hI eh60 rfl rfl d_Prog_init_58 (fun H locs hI => ?_)
  refine lv_iinc (v := 8) (lv' := [(1, .int 8), (0, .ref v0)]) hx hb d_Prog_init_59 hl (k := 0) rfl (by decide) (by decide) rfl (fun ls hl => ?_)
  refine lv_goto (tgt := 40) hx hb d_Prog_init_62 (by decide) ?_
  refine lv_iload_n hx hb d_Prog_init_40 rfl (lv_at hl 0 rfl) ?_
  refine lv_bipush (v := 40) hx hb d_Prog_init_41 (by decide) ?_
  refine lv_icmp_ge (tgt := 65) hx hb d_Prog_init_43 (by decide) (fun c9 => absurd c9 (by decide)) (fun _ => ?_)
  refine lv_aload_n hx hb d_Prog_init_46 rfl (lv_at hl 1 rfl) ?_
  obtain ⟨x61, ex61, hf⟩ := z_bs hf
  refine z_getF X hI (k := 2) (ci := 9) (gR_s ex61) i_Prog rfl (by decide) wf_Prog_29 d_Prog_init_47 ?_
  refine lv_iload_n hx hb d_Prog_init_50 rfl (lv_at hl 0 rfl) ?_
  obtain ⟨u62, eu62, hf⟩ := z_bs hf
  refine z_size (n := n + 56) hI (by omega) (Or.inr (zD_s eu62)) (fun hn => ?_)
  obtain ⟨h63, eh63, hf⟩ := z_bs hf
  refine z_new (n := (n + 56)) (ci := 1) (fs := [.null, .null, .null, .int 0, .int 0, .int 0, .int 0, .int 0, .int 0, .int 0, .int 0, .int 0, .int 0, .int 0, .int 0, .int 0]) (ty0 := t_Cmd) X hI hn i_Cmd t_Cmd_ok rfl wk_Prog_27 wn_Cmd wz_Cmd (by decide +kernel) (by decide) d_Prog_init_51 (fun H hI hn => ?_)
  rw [Option.some.inj eh63] at hI
  refine W.widen (k := 57) (n := 1607) (by decide) (by decide) ?_
  refine lv_dup hx hb d_Prog_init_54 rfl ?_
  obtain ⟨u64, eu64, hf⟩ := z_bs hf
  refine z_size (n := n + 57) hI (by omega) (Or.inr (zD_s eu64)) (fun hn => ?_)
  obtain ⟨h65, eh65, hf⟩ := z_bs hf
  refine zn_callN (n := (n + 57)) (mc := 5) (ms := 27) (As := []) (rest := [.ref (n + 56), .int 8, .ref x61]) (h' := h65) X hF hI hn (s_Cmd_init eh65) (List.mem_of_getElem? (i := 6) rfl) yn_Cmd_init rfl hl.1 rfl (Nat.le_of_ble_eq_true rfl) (by decide) (by decide) d_Prog_init_55 (fun H locs hI hn => ?_)
  refine W.widen (k := 62) (n := 1634) (by decide) (by decide) ?_
  obtain ⟨h66, eh66, hf⟩ := z_bs hf
  refine z_aast X hI eh66 rfl rfl d_Prog_init_58 (fun H locs hI => ?_)
  refine lv_iinc (v := 9) (lv' := [(1, .int 9), (0, .ref v0)]) hx hb d_Prog_init_59 hl (k := 0) rfl (by decide) (by decide) rfl (fun ls hl => ?_)
  refine lv_goto (tgt := 40) hx hb d_Prog_init_62 (by decide) ?_
  refine lv_iload_n hx hb d_Prog_init_40 rfl (lv_at hl 0 rfl) ?_
  refine lv_bipush (v := 40) hx hb d_Prog_init_41 (by decide) ?_
  refine lv_icmp_ge (tgt := 65) hx hb d_Prog_init_43 (by decide) (fun c9 => absurd c9 (by decide)) (fun _ => ?_)
  refine lv_aload_n hx hb d_Prog_init_46 rfl (lv_at hl 1 rfl) ?_
  obtain ⟨x67, ex67, hf⟩ := z_bs hf
  refine z_getF X hI (k := 2) (ci := 9) (gR_s ex67) i_Prog rfl (by decide) wf_Prog_29 d_Prog_init_47 ?_
  refine lv_iload_n hx hb d_Prog_init_50 rfl (lv_at hl 0 rfl) ?_
  obtain ⟨u68, eu68, hf⟩ := z_bs hf
  refine z_size (n := n + 62) hI (by omega) (Or.inr (zD_s eu68)) (fun hn => ?_)
  obtain ⟨h69, eh69, hf⟩ := z_bs hf
  refine z_new (n := (n + 62)) (ci := 1) (fs := [.null, .null, .null, .int 0, .int 0, .int 0, .int 0, .int 0, .int 0, .int 0, .int 0, .int 0, .int 0, .int 0, .int 0, .int 0]) (ty0 := t_Cmd) X hI hn i_Cmd t_Cmd_ok rfl wk_Prog_27 wn_Cmd wz_Cmd (by decide +kernel) (by decide) d_Prog_init_51 (fun H hI hn => ?_)
  rw [Option.some.inj eh69] at hI
  refine W.widen (k := 63) (n := 1650) (by decide) (by decide) ?_
  refine lv_dup hx hb d_Prog_init_54 rfl ?_
  obtain ⟨u70, eu70, hf⟩ := z_bs hf
  refine z_size (n := n + 63) hI (by omega) (Or.inr (zD_s eu70)) (fun hn => ?_)
  obtain ⟨h71, eh71, hf⟩ := z_bs hf
  refine zn_callN (n := (n + 63)) (mc := 5) (ms := 27) (As := []) (rest := [.ref (n + 62), .int 9, .ref x67]) (h' := h71) X hF hI hn (s_Cmd_init eh71) (List.mem_of_getElem? (i := 6) rfl) yn_Cmd_init rfl hl.1 rfl (Nat.le_of_ble_eq_true rfl) (by decide) (by decide) d_Prog_init_55 (fun H locs hI hn => ?_)
  refine W.widen (k := 68) (n := 1677) (by decide) (by decide) ?_
  obtain ⟨h72, eh72, hf⟩ := z_bs hf
  refine z_aast X hI eh72 rfl rfl d_Prog_init_58 (fun H locs hI => ?_)
  refine lv_iinc (v := 10) (lv' := [(1, .int 10), (0, .ref v0)]) hx hb d_Prog_init_59 hl (k := 0) rfl (by decide) (by decide) rfl (fun ls hl => ?_)
  refine lv_goto (tgt := 40) hx hb d_Prog_init_62 (by decide) ?_
  refine lv_iload_n hx hb d_Prog_init_40 rfl (lv_at hl 0 rfl) ?_
  refine lv_bipush (v := 40) hx hb d_Prog_init_41 (by decide) ?_
  refine lv_icmp_ge (tgt := 65) hx hb d_Prog_init_43 (by decide) (fun c9 => absurd c9 (by decide)) (fun _ => ?_)
  refine lv_aload_n hx hb d_Prog_init_46 rfl (lv_at hl 1 rfl) ?_
  obtain ⟨x73, ex73, hf⟩ := z_bs hf
  refine z_getF X hI (k := 2) (ci := 9) (gR_s ex73) i_Prog rfl (by decide) wf_Prog_29 d_Prog_init_47 ?_
  refine lv_iload_n hx hb d_Prog_init_50 rfl (lv_at hl 0 rfl) ?_
  obtain ⟨u74, eu74, hf⟩ := z_bs hf
  refine z_size (n := n + 68) hI (by omega) (Or.inr (zD_s eu74)) (fun hn => ?_)
  obtain ⟨h75, eh75, hf⟩ := z_bs hf
  refine z_new (n := (n + 68)) (ci := 1) (fs := [.null, .null, .null, .int 0, .int 0, .int 0, .int 0, .int 0, .int 0, .int 0, .int 0, .int 0, .int 0, .int 0, .int 0, .int 0]) (ty0 := t_Cmd) X hI hn i_Cmd t_Cmd_ok rfl wk_Prog_27 wn_Cmd wz_Cmd (by decide +kernel) (by decide) d_Prog_init_51 (fun H hI hn => ?_)
  rw [Option.some.inj eh75] at hI
  refine W.widen (k := 69) (n := 1693) (by decide) (by decide) ?_
  refine lv_dup hx hb d_Prog_init_54 rfl ?_
  obtain ⟨u76, eu76, hf⟩ := z_bs hf
  refine z_size (n := n + 69) hI (by omega) (Or.inr (zD_s eu76)) (fun hn => ?_)
  obtain ⟨h77, eh77, hf⟩ := z_bs hf
  refine zn_callN (n := (n + 69)) (mc := 5) (ms := 27) (As := []) (rest := [.ref (n + 68), .int 10, .ref x73]) (h' := h77) X hF hI hn (s_Cmd_init eh77) (List.mem_of_getElem? (i := 6) rfl) yn_Cmd_init rfl hl.1 rfl (Nat.le_of_ble_eq_true rfl) (by decide) (by decide) d_Prog_init_55 (fun H locs hI hn => ?_)
  refine W.widen (k := 74) (n := 1720) (by decide) (by decide) ?_
  obtain ⟨h78, eh78, hf⟩ := z_bs hf
  refine z_aast X hI eh78 rfl rfl d_Prog_init_58 (fun H locs hI => ?_)
  refine lv_iinc (v := 11) (lv' := [(1, .int 11), (0, .ref v0)]) hx hb d_Prog_init_59 hl (k := 0) rfl (by decide) (by decide) rfl (fun ls hl => ?_)
  refine lv_goto (tgt := 40) hx hb d_Prog_init_62 (by decide) ?_
  refine lv_iload_n hx hb d_Prog_init_40 rfl (lv_at hl 0 rfl) ?_
  refine lv_bipush (v := 40) hx hb d_Prog_init_41 (by decide) ?_
  refine lv_icmp_ge (tgt := 65) hx hb d_Prog_init_43 (by decide) (fun c9 => absurd c9 (by decide)) (fun _ => ?_)
  refine lv_aload_n hx hb d_Prog_init_46 rfl (lv_at hl 1 rfl) ?_
  obtain ⟨x79, ex79, hf⟩ := z_bs hf
  refine z_getF X hI (k := 2) (ci := 9) (gR_s ex79) i_Prog rfl (by decide) wf_Prog_29 d_Prog_init_47 ?_
  refine lv_iload_n hx hb d_Prog_init_50 rfl (lv_at hl 0 rfl) ?_
  obtain ⟨u80, eu80, hf⟩ := z_bs hf
  refine z_size (n := n + 74) hI (by omega) (Or.inr (zD_s eu80)) (fun hn => ?_)
  obtain ⟨h81, eh81, hf⟩ := z_bs hf
  refine z_new (n := (n + 74)) (ci := 1) (fs := [.null, .null, .null, .int 0, .int 0, .int 0, .int 0, .int 0, .int 0, .int 0, .int 0, .int 0, .int 0, .int 0, .int 0, .int 0]) (ty0 := t_Cmd) X hI hn i_Cmd t_Cmd_ok rfl wk_Prog_27 wn_Cmd wz_Cmd (by decide +kernel) (by decide) d_Prog_init_51 (fun H hI hn => ?_)
  rw [Option.some.inj eh81] at hI
  refine W.widen (k := 75) (n := 1736) (by decide) (by decide) ?_
  refine lv_dup hx hb d_Prog_init_54 rfl ?_
  obtain ⟨u82, eu82, hf⟩ := z_bs hf
  refine z_size (n := n + 75) hI (by omega) (Or.inr (zD_s eu82)) (fun hn => ?_)
  obtain ⟨h83, eh83, hf⟩ := z_bs hf
  refine zn_callN (n := (n + 75)) (mc := 5) (ms := 27) (As := []) (rest := [.ref (n + 74), .int 11, .ref x79]) (h' := h83) X hF hI hn (s_Cmd_init eh83) (List.mem_of_getElem? (i := 6) rfl) yn_Cmd_init rfl hl.1 rfl (Nat.le_of_ble_eq_true rfl) (by decide) (by decide) d_Prog_init_55 (fun H locs hI hn => ?_)
  refine W.widen (k := 80) (n := 1763) (by decide) (by decide) ?_
  obtain ⟨h84, eh84, hf⟩ := z_bs hf
  refine z_aast X hI eh84 rfl rfl d_Prog_init_58 (fun H locs hI => ?_)
  refine lv_iinc (v := 12) (lv' := [(1, .int 12), (0, .ref v0)]) hx hb d_Prog_init_59 hl (k := 0) rfl (by decide) (by decide) rfl (fun ls hl => ?_)
  refine lv_goto (tgt := 40) hx hb d_Prog_init_62 (by decide) ?_
  refine lv_iload_n hx hb d_Prog_init_40 rfl (lv_at hl 0 rfl) ?_
  refine lv_bipush (v := 40) hx hb d_Prog_init_41 (by decide) ?_
  refine lv_icmp_ge (tgt := 65) hx hb d_Prog_init_43 (by decide) (fun c9 => absurd c9 (by decide)) (fun _ => ?_)
  refine lv_aload_n hx hb d_Prog_init_46 rfl (lv_at hl 1 rfl) ?_
  obtain ⟨x85, ex85, hf⟩ := z_bs hf
  refine z_getF X hI (k := 2) (ci := 9) (gR_s ex85) i_Prog rfl (by decide) wf_Prog_29 d_Prog_init_47 ?_
  refine lv_iload_n hx hb d_Prog_init_50 rfl (lv_at hl 0 rfl) ?_
  obtain ⟨u86, eu86, hf⟩ := z_bs hf
  refine z_size (n := n + 80) hI (by omega) (Or.inr (zD_s eu86)) (fun hn => ?_)
  obtain ⟨h87, eh87, hf⟩ := z_bs hf
  refine z_new (n := (n + 80)) (ci := 1) (fs := [.null, .null, .null, .int 0, .int 0, .int 0, .int 0, .int 0, .int 0, .int 0, .int 0, .int 0, .int 0, .int 0, .int 0, .int 0]) (ty0 := t_Cmd) X hI hn i_Cmd t_Cmd_ok rfl wk_Prog_27 wn_Cmd wz_Cmd (by decide +kernel) (by decide) d_Prog_init_51 (fun H hI hn => ?_)
  rw [Option.some.inj eh87] at hI
  refine W.widen (k := 81) (n := 1779) (by decide) (by decide) ?_
  refine lv_dup hx hb d_Prog_init_54 rfl ?_
  obtain ⟨u88, eu88, hf⟩ := z_bs hf
  refine z_size (n := n + 81) hI (by omega) (Or.inr (zD_s eu88)) (fun hn => ?_)
  obtain ⟨h89, eh89, hf⟩ := z_bs hf
  refine zn_callN (n := (n + 81)) (mc := 5) (ms := 27) (As := []) (rest := [.ref (n + 80), .int 12, .ref x85]) (h' := h89) X hF hI hn (s_Cmd_init eh89) (List.mem_of_getElem? (i := 6) rfl) yn_Cmd_init rfl hl.1 rfl (Nat.le_of_ble_eq_true rfl) (by decide) (by decide) d_Prog_init_55 (fun H locs hI hn => ?_)
  refine W.widen (k := 86) (n := 1806) (by decide) (by decide) ?_
  obtain ⟨h90, eh90, hf⟩ := z_bs hf
  refine z_aast X hI eh90 rfl rfl d_Prog_init_58 (fun H locs hI => ?_)
  refine lv_iinc (v := 13) (lv' := [(1, .int 13), (0, .ref v0)]) hx hb d_Prog_init_59 hl (k := 0) rfl (by decide) (by decide) rfl (fun ls hl => ?_)
  refine lv_goto (tgt := 40) hx hb d_Prog_init_62 (by decide) ?_
  refine lv_iload_n hx hb d_Prog_init_40 rfl (lv_at hl 0 rfl) ?_
  refine lv_bipush (v := 40) hx hb d_Prog_init_41 (by decide) ?_
  refine lv_icmp_ge (tgt := 65) hx hb d_Prog_init_43 (by decide) (fun c9 => absurd c9 (by decide)) (fun _ => ?_)
  refine lv_aload_n hx hb d_Prog_init_46 rfl (lv_at hl 1 rfl) ?_
  obtain ⟨x91, ex91, hf⟩ := z_bs hf
  refine z_getF X hI (k := 2) (ci := 9) (gR_s ex91) i_Prog rfl (by decide) wf_Prog_29 d_Prog_init_47 ?_
  refine lv_iload_n hx hb d_Prog_init_50 rfl (lv_at hl 0 rfl) ?_
  obtain ⟨u92, eu92, hf⟩ := z_bs hf
  refine z_size (n := n + 86) hI (by omega) (Or.inr (zD_s eu92)) (fun hn => ?_)
  obtain ⟨h93, eh93, hf⟩ := z_bs hf
  refine z_new (n := (n + 86)) (ci := 1) (fs := [.null, .null, .null, .int 0, .int 0, .int 0, .int 0, .int 0, .int 0, .int 0, .int 0, .int 0, .int 0, .int 0, .int 0, .int 0]) (ty0 := t_Cmd) X hI hn i_Cmd t_Cmd_ok rfl wk_Prog_27 wn_Cmd wz_Cmd (by decide +kernel) (by decide) d_Prog_init_51 (fun H hI hn => ?_)
  rw [Option.some.inj eh93] at hI
  refine W.widen (k := 87) (n := 1822) (by decide) (by decide) ?_
  refine lv_dup hx hb d_Prog_init_54 rfl ?_
  obtain ⟨u94, eu94, hf⟩ := z_bs hf
  refine z_size (n := n + 87) hI (by omega) (Or.inr (zD_s eu94)) (fun hn => ?_)
  obtain ⟨h95, eh95, hf⟩ := z_bs hf
  refine zn_callN (n := (n + 87)) (mc := 5) (ms := 27) (As := []) (rest := [.ref (n + 86), .int 13, .ref x91]) (h' := h95) X hF hI hn (s_Cmd_init eh95) (List.mem_of_getElem? (i := 6) rfl) yn_Cmd_init rfl hl.1 rfl (Nat.le_of_ble_eq_true rfl) (by decide) (by decide) d_Prog_init_55 (fun H locs hI hn => ?_)
  refine W.widen (k := 92) (n := 1849) (by decide) (by decide) ?_
  obtain ⟨h96, eh96, hf⟩ := z_bs hf
  refine z_aast X hI eh96 rfl rfl d_Prog_init_58 (fun H locs hI => ?_)
  refine lv_iinc (v := 14) (lv' := [(1, .int 14), (0, .ref v0)]) hx hb d_Prog_init_59 hl (k := 0) rfl (by decide) (by decide) rfl (fun ls hl => ?_)
  refine lv_goto (tgt := 40) hx hb d_Prog_init_62 (by decide) ?_
  refine lv_iload_n hx hb d_Prog_init_40 rfl (lv_at hl 0 rfl) ?_
  refine lv_bipush (v := 40) hx hb d_Prog_init_41 (by decide) ?_
  refine lv_icmp_ge (tgt := 65) hx hb d_Prog_init_43 (by decide) (fun c9 => absurd c9 (by decide)) (fun _ => ?_)
  refine lv_aload_n hx hb d_Prog_init_46 rfl (lv_at hl 1 rfl) ?_
  obtain ⟨x97, ex97, hf⟩ := z_bs hf
  refine z_getF X hI (k := 2) (ci := 9) (gR_s ex97) i_Prog rfl (by decide) wf_Prog_29 d_Prog_init_47 ?_
  refine lv_iload_n hx hb d_Prog_init_50 rfl (lv_at hl 0 rfl) ?_
  obtain ⟨u98, eu98, hf⟩ := z_bs hf
  refine z_size (n := n + 92) hI (by omega) (Or.inr (zD_s eu98)) (fun hn => ?_)
  obtain ⟨h99, eh99, hf⟩ := z_bs hf
  refine z_new (n := (n + 92)) (ci := 1) (fs := [.null, .null, .null, .int 0, .int 0, .int 0, .int 0, .int 0, .int 0, .int 0, .int 0, .int 0, .int 0, .int 0, .int 0, .int 0]) (ty0 := t_Cmd) X hI hn i_Cmd t_Cmd_ok rfl wk_Prog_27 wn_Cmd wz_Cmd (by decide +kernel) (by decide) d_Prog_init_51 (fun H hI hn => ?_)
  rw [Option.some.inj eh99] at hI
  refine W.widen (k := 93) (n := 1865) (by decide) (by decide) ?_
  refine lv_dup hx hb d_Prog_init_54 rfl ?_
  obtain ⟨u100, eu100, hf⟩ := z_bs hf
  refine z_size (n := n + 93) hI (by omega) (Or.inr (zD_s eu100)) (fun hn => ?_)
  obtain ⟨h101, eh101, hf⟩ := z_bs hf
  refine zn_callN (n := (n + 93)) (mc := 5) (ms := 27) (As := []) (rest := [.ref (n + 92), .int 14, .ref x97]) (h' := h101) X hF hI hn (s_Cmd_init eh101) (List.mem_of_getElem? (i := 6) rfl) yn_Cmd_init rfl hl.1 rfl (Nat.le_of_ble_eq_true rfl) (by decide) (by decide) d_Prog_init_55 (fun H locs hI hn => ?_)
  refine W.widen (k := 98) (n := 1892) (by decide) (by decide) ?_
  obtain ⟨h102, eh102, hf⟩ := z_bs hf
  refine z_aast X hI eh102 rfl rfl d_Prog_init_58 (fun H locs hI => ?_)
  refine lv_iinc (v := 15) (lv' := [(1, .int 15), (0, .ref v0)]) hx hb d_Prog_init_59 hl (k := 0) rfl (by decide) (by decide) rfl (fun ls hl => ?_)
  refine lv_goto (tgt := 40) hx hb d_Prog_init_62 (by decide) ?_
  refine lv_iload_n hx hb d_Prog_init_40 rfl (lv_at hl 0 rfl) ?_
  refine lv_bipush (v := 40) hx hb d_Prog_init_41 (by decide) ?_
  refine lv_icmp_ge (tgt := 65) hx hb d_Prog_init_43 (by decide) (fun c9 => absurd c9 (by decide)) (fun _ => ?_)
  refine lv_aload_n hx hb d_Prog_init_46 rfl (lv_at hl 1 rfl) ?_
  obtain ⟨x103, ex103, hf⟩ := z_bs hf
  refine z_getF X hI (k := 2) (ci := 9) (gR_s ex103) i_Prog rfl (by decide) wf_Prog_29 d_Prog_init_47 ?_
  refine lv_iload_n hx hb d_Prog_init_50 rfl (lv_at hl 0 rfl) ?_
  obtain ⟨u104, eu104, hf⟩ := z_bs hf
  refine z_size (n := n + 98) hI (by omega) (Or.inr (zD_s eu104)) (fun hn => ?_)
  obtain ⟨h105, eh105, hf⟩ := z_bs hf
  refine z_new (n := (n + 98)) (ci := 1) (fs := [.null, .null, .null, .int 0, .int 0, .int 0, .int 0, .int 0, .int 0, .int 0, .int 0, .int 0, .int 0, .int 0, .int 0, .int 0]) (ty0 := t_Cmd) X hI hn i_Cmd t_Cmd_ok rfl wk_Prog_27 wn_Cmd wz_Cmd (by decide +kernel) (by decide) d_Prog_init_51 (fun H hI hn => ?_)
  rw [Option.some.inj eh105] at hI
  refine W.widen (k := 99) (n := 1908) (by decide) (by decide) ?_
  refine lv_dup hx hb d_Prog_init_54 rfl ?_
  obtain ⟨u106, eu106, hf⟩ := z_bs hf
  refine z_size (n := n + 99) hI (by omega) (Or.inr (zD_s eu106)) (fun hn => ?_)
  obtain ⟨h107, eh107, hf⟩ := z_bs hf
  refine zn_callN (n := (n + 99)) (mc := 5) (ms := 27) (As := []) (rest := [.ref (n + 98), .int 15, .ref x103]) (h' := h107) X hF hI hn (s_Cmd_init eh107) (List.mem_of_getElem? (i := 6) rfl) yn_Cmd_init rfl hl.1 rfl (Nat.le_of_ble_eq_true rfl) (by decide) (by decide) d_Prog_init_55 (fun H locs hI hn => ?_)
  refine W.widen (k := 104) (n := 1935) (by decide) (by decide) ?_
  obtain ⟨h108, eh108, hf⟩ := z_bs hf
  refine z_aast X hI eh108 rfl rfl d_Prog_init_58 (fun H locs hI => ?_)
  refine lv_iinc (v := 16) (lv' := [(1, .int 16), (0, .ref v0)]) hx hb d_Prog_init_59 hl (k := 0) rfl (by decide) (by decide) rfl (fun ls hl => ?_)
  refine lv_goto (tgt := 40) hx hb d_Prog_init_62 (by decide) ?_
  refine lv_iload_n hx hb d_Prog_init_40 rfl (lv_at hl 0 rfl) ?_
  refine lv_bipush (v := 40) hx hb d_Prog_init_41 (by decide) ?_
  refine lv_icmp_ge (tgt := 65) hx hb d_Prog_init_43 (by decide) (fun c9 => absurd c9 (by decide)) (fun _ => ?_)
  refine lv_aload_n hx hb d_Prog_init_46 rfl (lv_at hl 1 rfl) ?_
  obtain ⟨x109, ex109, hf⟩ := z_bs hf
  refine z_getF X hI (k := 2) (ci := 9) (gR_s ex109) i_Prog rfl (by decide) wf_Prog_29 d_Prog_init_47 ?_
  refine lv_iload_n hx hb d_Prog_init_50 rfl (lv_at hl 0 rfl) ?_
  obtain ⟨u110, eu110, hf⟩ := z_bs hf
  refine z_size (n := n + 104) hI (by omega) (Or.inr (zD_s eu110)) (fun hn => ?_)
  obtain ⟨h111, eh111, hf⟩ := z_bs hf
  refine z_new (n := (n + 104)) (ci := 1) (fs := [.null, .null, .null, .int 0, .int 0, .int 0, .int 0, .int 0, .int 0, .int 0, .int 0, .int 0, .int 0, .int 0, .int 0, .int 0]) (ty0 := t_Cmd) X hI hn i_Cmd t_Cmd_ok rfl wk_Prog_27 wn_Cmd wz_Cmd (by decide +kernel) (by decide) d_Prog_init_51 (fun H hI hn => ?_)
  rw [Option.some.inj eh111] at hI
  refine W.widen (k := 105) (n := 1951) (by decide) (by decide) ?_
  refine lv_dup hx hb d_Prog_init_54 rfl ?_
  obtain ⟨u112, eu112, hf⟩ := z_bs hf
  refine z_size (n := n + 105) hI (by omega) (Or.inr (zD_s eu112)) (fun hn => ?_)
  obtain ⟨h113, eh113, hf⟩ := z_bs hf
  refine zn_callN (n := (n + 105)) (mc := 5) (ms := 27) (As := []) (rest := [.ref (n + 104), .int 16, .ref x109]) (h' := h113) X hF hI hn (s_Cmd_init eh113) (List.mem_of_getElem? (i := 6) rfl) yn_Cmd_init rfl hl.1 rfl (Nat.le_of_ble_eq_true rfl) (by decide) (by decide) d_Prog_init_55 (fun H locs hI hn => ?_)
  refine W.widen (k := 110) (n := 1978) (by decide) (by decide) ?_
  obtain ⟨h114, eh114, hf⟩ := z_bs hf
  refine z_aast X hI eh114 rfl rfl d_Prog_init_58 (fun H locs hI => ?_)
  refine lv_iinc (v := 17) (lv' := [(1, .int 17), (0, .ref v0)]) hx hb d_Prog_init_59 hl (k := 0) rfl (by decide) (by decide) rfl (fun ls hl => ?_)
  refine lv_goto (tgt := 40) hx hb d_Prog_init_62 (by decide) ?_
  refine lv_iload_n hx hb d_Prog_init_40 rfl (lv_at hl 0 rfl) ?_
  refine lv_bipush (v := 40) hx hb d_Prog_init_41 (by decide) ?_
  refine lv_icmp_ge (tgt := 65) hx hb d_Prog_init_43 (by decide) (fun c9 => absurd c9 (by decide)) (fun _ => ?_)
  refine lv_aload_n hx hb d_Prog_init_46 rfl (lv_at hl 1 rfl) ?_
  obtain ⟨x115, ex115, hf⟩ := z_bs hf
  refine z_getF X hI (k := 2) (ci := 9) (gR_s ex115) i_Prog rfl (by decide) wf_Prog_29 d_Prog_init_47 ?_
  refine lv_iload_n hx hb d_Prog_init_50 rfl (lv_at hl 0 rfl) ?_
  obtain ⟨u116, eu116, hf⟩ := z_bs hf
  refine z_size (n := n + 110) hI (by omega) (Or.inr (zD_s eu116)) (fun hn => ?_)
  obtain ⟨h117, eh117, hf⟩ := z_bs hf
  refine z_new (n := (n + 110)) (ci := 1) (fs := [.null, .null, .null, .int 0, .int 0, .int 0, .int 0, .int 0, .int 0, .int 0, .int 0, .int 0, .int 0, .int 0, .int 0, .int 0]) (ty0 := t_Cmd) X hI hn i_Cmd t_Cmd_ok rfl wk_Prog_27 wn_Cmd wz_Cmd (by decide +kernel) (by decide) d_Prog_init_51 (fun H hI hn => ?_)
  rw [Option.some.inj eh117] at hI
  refine W.widen (k := 111) (n := 1994) (by decide) (by decide) ?_
  refine lv_dup hx hb d_Prog_init_54 rfl ?_
  obtain ⟨u118, eu118, hf⟩ := z_bs hf
  refine z_size (n := n + 111) hI (by omega) (Or.inr (zD_s eu118)) (fun hn => ?_)
  obtain ⟨h119, eh119, hf⟩ := z_bs hf
  refine zn_callN (n := (n + 111)) (mc := 5) (ms := 27) (As := []) (rest := [.ref (n + 110), .int 17, .ref x115]) (h' := h119) X hF hI hn (s_Cmd_init eh119) (List.mem_of_getElem? (i := 6) rfl) yn_Cmd_init rfl hl.1 rfl (Nat.le_of_ble_eq_true rfl) (by decide) (by decide) d_Prog_init_55 (fun H locs hI hn => ?_)
  refine W.widen (k := 116) (n := 2021) (by decide) (by decide) ?_
  obtain ⟨h120, eh120, hf⟩ := z_bs hf
  refine z_aast X hI eh120 rfl rfl d_Prog_init_58 (fun H locs hI => ?_)
  refine lv_iinc (v := 18) (lv' := [(1, .int 18), (0, .ref v0)]) hx hb d_Prog_init_59 hl (k := 0) rfl (by decide) (by decide) rfl (fun ls hl => ?_)
  refine lv_goto (tgt := 40) hx hb d_Prog_init_62 (by decide) ?_
  refine lv_iload_n hx hb d_Prog_init_40 rfl (lv_at hl 0 rfl) ?_
  refine lv_bipush (v := 40) hx hb d_Prog_init_41 (by decide) ?_
  refine lv_icmp_ge (tgt := 65) hx hb d_Prog_init_43 (by decide) (fun c9 => absurd c9 (by decide)) (fun _ => ?_)
  refine lv_aload_n hx hb d_Prog_init_46 rfl (lv_at hl 1 rfl) ?_
  obtain ⟨x121, ex121, hf⟩ := z_bs hf
  refine z_getF X hI (k := 2) (ci := 9) (gR_s ex121) i_Prog rfl (by decide) wf_Prog_29 d_Prog_init_47 ?_
  refine lv_iload_n hx hb d_Prog_init_50 rfl (lv_at hl 0 rfl) ?_
  obtain ⟨u122, eu122, hf⟩ := z_bs hf
  refine z_size (n := n + 116) hI (by omega) (Or.inr (zD_s eu122)) (fun hn => ?_)
  obtain ⟨h123, eh123, hf⟩ := z_bs hf
  refine z_new (n := (n + 116)) (ci := 1) (fs := [.null, .null, .null, .int 0, .int 0, .int 0, .int 0, .int 0, .int 0, .int 0, .int 0, .int 0, .int 0, .int 0, .int 0, .int 0]) (ty0 := t_Cmd) X hI hn i_Cmd t_Cmd_ok rfl wk_Prog_27 wn_Cmd wz_Cmd (by decide +kernel) (by decide) d_Prog_init_51 (fun H hI hn => ?_)
  rw [Option.some.inj eh123] at hI
  refine W.widen (k := 117) (n := 2037) (by decide) (by decide) ?_
  refine lv_dup hx hb d_Prog_init_54 rfl ?_
  obtain ⟨u124, eu124, hf⟩ := z_bs hf
  refine z_size (n := n + 117) hI (by omega) (Or.inr (zD_s eu124)) (fun hn => ?_)
  obtain ⟨h125, eh125, hf⟩ := z_bs hf
  refine zn_callN (n := (n + 117)) (mc := 5) (ms := 27) (As := []) (rest := [.ref (n + 116), .int 18, .ref x121]) (h' := h125) X hF hI hn (s_Cmd_init eh125) (List.mem_of_getElem? (i := 6) rfl) yn_Cmd_init rfl hl.1 rfl (Nat.le_of_ble_eq_true rfl) (by decide) (by decide) d_Prog_init_55 (fun H locs hI hn => ?_)
  refine W.widen (k := 122) (n := 2064) (by decide) (by decide) ?_
  obtain ⟨h126, eh126, hf⟩ := z_bs hf
  refine z_aast X hI eh126 rfl rfl d_Prog_init_58 (fun H locs hI => ?_)
  refine lv_iinc (v := 19) (lv' := [(1, .int 19), (0, .ref v0)]) hx hb d_Prog_init_59 hl (k := 0) rfl (by decide) (by decide) rfl (fun ls hl => ?_)
  refine lv_goto (tgt := 40) hx hb d_Prog_init_62 (by decide) ?_
  refine lv_iload_n hx hb d_Prog_init_40 rfl (lv_at hl 0 rfl) ?_
  refine lv_bipush (v := 40) hx hb d_Prog_init_41 (by decide) ?_
  refine lv_icmp_ge (tgt := 65) hx hb d_Prog_init_43 (by decide) (fun c9 => absurd c9 (by decide)) (fun _ => ?_)
  refine lv_aload_n hx hb d_Prog_init_46 rfl (lv_at hl 1 rfl) ?_
  obtain ⟨x127, ex127, hf⟩ := z_bs hf
  refine z_getF X hI (k := 2) (ci := 9) (gR_s ex127) i_Prog rfl (by decide) wf_Prog_29 d_Prog_init_47 ?_
  refine lv_iload_n hx hb d_Prog_init_50 rfl (lv_at hl 0 rfl) ?_
  obtain ⟨u128, eu128, hf⟩ := z_bs hf
  refine z_size (n := n + 122) hI (by omega) (Or.inr (zD_s eu128)) (fun hn => ?_)
  obtain ⟨h129, eh129, hf⟩ := z_bs hf
  refine z_new (n := (n + 122)) (ci := 1) (fs := [.null, .null, .null, .int 0, .int 0, .int 0, .int 0, .int 0, .int 0, .int 0, .int 0, .int 0, .int 0, .int 0, .int 0, .int 0]) (ty0 := t_Cmd) X hI hn i_Cmd t_Cmd_ok rfl wk_Prog_27 wn_Cmd wz_Cmd (by decide +kernel) (by decide) d_Prog_init_51 (fun H hI hn => ?_)
  rw [Option.some.inj eh129] at hI
  refine W.widen (k := 123) (n := 2080) (by decide) (by decide) ?_
  refine lv_dup hx hb d_Prog_init_54 rfl ?_
  obtain ⟨u130, eu130, hf⟩ := z_bs hf
  refine z_size (n := n + 123) hI (by omega) (Or.inr (zD_s eu130)) (fun hn => ?_)
  obtain ⟨h131, eh131, hf⟩ := z_bs hf
  refine zn_callN (n := (n + 123)) (mc := 5) (ms := 27) (As := []) (rest := [.ref (n + 122), .int 19, .ref x127]) (h' := h131) X hF hI hn (s_Cmd_init eh131) (List.mem_of_getElem? (i := 6) rfl) yn_Cmd_init rfl hl.1 rfl (Nat.le_of_ble_eq_true rfl) (by decide) (by decide) d_Prog_init_55 (fun H locs hI hn => ?_)
  refine W.widen (k := 128) (n := 2107) (by decide) (by decide) ?_
  obtain ⟨h132, eh132, hf⟩ := z_bs hf
  refine z_aast X hI eh132 rfl rfl d_Prog_init_58 (fun H locs hI => ?_)
  refine lv_iinc (v := 20) (lv' := [(1, .int 20), (0, .ref v0)]) hx hb d_Prog_init_59 hl (k := 0) rfl (by decide) (by decide) rfl (fun ls hl => ?_)
  refine lv_goto (tgt := 40) hx hb d_Prog_init_62 (by decide) ?_
  refine lv_iload_n hx hb d_Prog_init_40 rfl (lv_at hl 0 rfl) ?_
  refine lv_bipush (v := 40) hx hb d_Prog_init_41 (by decide) ?_
  refine lv_icmp_ge (tgt := 65) hx hb d_Prog_init_43 (by decide) (fun c9 => absurd c9 (by decide)) (fun _ => ?_)
  refine lv_aload_n hx hb d_Prog_init_46 rfl (lv_at hl 1 rfl) ?_
  obtain ⟨x133, ex133, hf⟩ := z_bs hf
  refine z_getF X hI (k := 2) (ci := 9) (gR_s ex133) i_Prog rfl (by decide) wf_Prog_29 d_Prog_init_47 ?_
  refine lv_iload_n hx hb d_Prog_init_50 rfl (lv_at hl 0 rfl) ?_
  obtain ⟨u134, eu134, hf⟩ := z_bs hf
  refine z_size (n := n + 128) hI (by omega) (Or.inr (zD_s eu134)) (fun hn => ?_)
  obtain ⟨h135, eh135, hf⟩ := z_bs hf
  refine z_new (n := (n + 128)) (ci := 1) (fs := [.null, .null, .null, .int 0, .int 0, .int 0, .int 0, .int 0, .int 0, .int 0, .int 0, .int 0, .int 0, .int 0, .int 0, .int 0]) (ty0 := t_Cmd) X hI hn i_Cmd t_Cmd_ok rfl wk_Prog_27 wn_Cmd wz_Cmd (by decide +kernel) (by decide) d_Prog_init_51 (fun H hI hn => ?_)
  rw [Option.some.inj eh135] at hI
  refine W.widen (k := 129) (n := 2123) (by decide) (by decide) ?_
  refine lv_dup hx hb d_Prog_init_54 rfl ?_
  obtain ⟨u136, eu136, hf⟩ := z_bs hf
  refine z_size (n := n + 129) hI (by omega) (Or.inr (zD_s eu136)) (fun hn => ?_)
  obtain ⟨h137, eh137, hf⟩ := z_bs hf
  refine zn_callN (n := (n + 129)) (mc := 5) (ms := 27) (As := []) (rest := [.ref (n + 128), .int 20, .ref x133]) (h' := h137) X hF hI hn (s_Cmd_init eh137) (List.mem_of_getElem? (i := 6) rfl) yn_Cmd_init rfl hl.1 rfl (Nat.le_of_ble_eq_true rfl) (by decide) (by decide) d_Prog_init_55 (fun H locs hI hn => ?_)
  refine W.widen (k := 134) (n := 2150) (by decide) (by decide) ?_
  obtain ⟨h138, eh138, hf⟩ := z_bs hf
  refine z_aast X hI eh138 rfl rfl d_Prog_init_58 (fun H locs hI => ?_)
  refine lv_iinc (v := 21) (lv' := [(1, .int 21), (0, .ref v0)]) hx hb d_Prog_init_59 hl (k := 0) rfl (by decide) (by decide) rfl (fun ls hl => ?_)
  refine lv_goto (tgt := 40) hx hb d_Prog_init_62 (by decide) ?_
  refine lv_iload_n hx hb d_Prog_init_40 rfl (lv_at hl 0 rfl) ?_
  refine lv_bipush (v := 40) hx hb d_Prog_init_41 (by decide) ?_
  refine lv_icmp_ge (tgt := 65) hx hb d_Prog_init_43 (by decide) (fun c9 => absurd c9 (by decide)) (fun _ => ?_)
  refine lv_aload_n hx hb d_Prog_init_46 rfl (lv_at hl 1 rfl) ?_
  obtain ⟨x139, ex139, hf⟩ := z_bs hf
  refine z_getF X hI (k := 2) (ci := 9) (gR_s ex139) i_Prog rfl (by decide) wf_Prog_29 d_Prog_init_47 ?_
  refine lv_iload_n hx hb d_Prog_init_50 rfl (lv_at hl 0 rfl) ?_
  obtain ⟨u140, eu140, hf⟩ := z_bs hf
  refine z_size (n := n + 134) hI (by omega) (Or.inr (zD_s eu140)) (fun hn => ?_)
  obtain ⟨h141, eh141, hf⟩ := z_bs hf
  refine z_new (n := (n + 134)) (ci := 1) (fs := [.null, .null, .null, .int 0, .int 0, .int 0, .int 0, .int 0, .int 0, .int 0, .int 0, .int 0, .int 0, .int 0, .int 0, .int 0]) (ty0 := t_Cmd) X hI hn i_Cmd t_Cmd_ok rfl wk_Prog_27 wn_Cmd wz_Cmd (by decide +kernel) (by decide) d_Prog_init_51 (fun H hI hn => ?_)
  rw [Option.some.inj eh141] at hI
  refine W.widen (k := 135) (n := 2166) (by decide) (by decide) ?_
  refine lv_dup hx hb d_Prog_init_54 rfl ?_
  obtain ⟨u142, eu142, hf⟩ := z_bs hf
  refine z_size (n := n + 135) hI (by omega) (Or.inr (zD_s eu142)) (fun hn => ?_)
  obtain ⟨h143, eh143, hf⟩ := z_bs hf
  refine zn_callN (n := (n + 135)) (mc := 5) (ms := 27) (As := []) (rest := [.ref (n + 134), .int 21, .ref x139]) (h' := h143) X hF hI hn (s_Cmd_init eh143) (List.mem_of_getElem? (i := 6) rfl) yn_Cmd_init rfl hl.1 rfl (Nat.le_of_ble_eq_true rfl) (by decide) (by decide) d_Prog_init_55 (fun H locs hI hn => ?_)
  refine W.widen (k := 140) (n := 2193) (by decide) (by decide) ?_
  obtain ⟨h144, eh144, hf⟩ := z_bs hf
  refine z_aast X hI eh144 rfl rfl d_Prog_init_58 (fun H locs hI => ?_)
  refine lv_iinc (v := 22) (lv' := [(1, .int 22), (0, .ref v0)]) hx hb d_Prog_init_59 hl (k := 0) rfl (by decide) (by decide) rfl (fun ls hl => ?_)
  refine lv_goto (tgt := 40) hx hb d_Prog_init_62 (by decide) ?_
  refine lv_iload_n hx hb d_Prog_init_40 rfl (lv_at hl 0 rfl) ?_
  refine lv_bipush (v := 40) hx hb d_Prog_init_41 (by decide) ?_
  refine lv_icmp_ge (tgt := 65) hx hb d_Prog_init_43 (by decide) (fun c9 => absurd c9 (by decide)) (fun _ => ?_)
  refine lv_aload_n hx hb d_Prog_init_46 rfl (lv_at hl 1 rfl) ?_
  obtain ⟨x145, ex145, hf⟩ := z_bs hf
  refine z_getF X hI (k := 2) (ci := 9) (gR_s ex145) i_Prog rfl (by decide) wf_Prog_29 d_Prog_init_47 ?_
  refine lv_iload_n hx hb d_Prog_init_50 rfl (lv_at hl 0 rfl) ?_
  obtain ⟨u146, eu146, hf⟩ := z_bs hf
  refine z_size (n := n + 140) hI (by omega) (Or.inr (zD_s eu146)) (fun hn => ?_)
  obtain ⟨h147, eh147, hf⟩ := z_bs hf
  refine z_new (n := (n + 140)) (ci := 1) (fs := [.null, .null, .null, .int 0, .int 0, .int 0, .int 0, .int 0, .int 0, .int 0, .int 0, .int 0, .int 0, .int 0, .int 0, .int 0]) (ty0 := t_Cmd) X hI hn i_Cmd t_Cmd_ok rfl wk_Prog_27 wn_Cmd wz_Cmd (by decide +kernel) (by decide) d_Prog_init_51 (fun H hI hn => ?_)
  rw [Option.some.inj eh147] at hI
  refine W.widen (k := 141) (n := 2209) (by decide) (by decide) ?_
  refine lv_dup hx hb d_Prog_init_54 rfl ?_
  obtain ⟨u148, eu148, hf⟩ := z_bs hf
  refine z_size (n := n + 141) hI (by omega) (Or.inr (zD_s eu148)) (fun hn => ?_)
  obtain ⟨h149, eh149, hf⟩ := z_bs hf
  refine zn_callN (n := (n + 141)) (mc := 5) (ms := 27) (As := []) (rest := [.ref (n + 140), .int 22, .ref x145]) (h' := h149) X hF hI hn (s_Cmd_init eh149) (List.mem_of_getElem? (i := 6) rfl) yn_Cmd_init rfl hl.1 rfl (Nat.le_of_ble_eq_true rfl) (by decide) (by decide) d_Prog_init_55 (fun H locs hI hn => ?_)
  refine W.widen (k := 146) (n := 2236) (by decide) (by decide) ?_
  obtain ⟨h150, eh150, hf⟩ := z_bs hf
  refine z_aast X hI eh150 rfl rfl d_Prog_init_58 (fun H locs hI => ?_)
  refine lv_iinc (v := 23) (lv' := [(1, .int 23), (0, .ref v0)]) hx hb d_Prog_init_59 hl (k := 0) rfl (by decide) (by decide) rfl (fun ls hl => ?_)
  refine lv_goto (tgt := 40) hx hb d_Prog_init_62 (by decide) ?_
  refine lv_iload_n hx hb d_Prog_init_40 rfl (lv_at hl 0 rfl) ?_
  refine lv_bipush (v := 40) hx hb d_Prog_init_41 (by decide) ?_
  refine lv_icmp_ge (tgt := 65) hx hb d_Prog_init_43 (by decide) (fun c9 => absurd c9 (by decide)) (fun _ => ?_)
  refine lv_aload_n hx hb d_Prog_init_46 rfl (lv_at hl 1 rfl) ?_
  obtain ⟨x151, ex151, hf⟩ := z_bs hf
  refine z_getF X hI (k := 2) (ci := 9) (gR_s ex151) i_Prog rfl (by decide) wf_Prog_29 d_Prog_init_47 ?_
  refine lv_iload_n hx hb d_Prog_init_50 rfl (lv_at hl 0 rfl) ?_
  obtain ⟨u152, eu152, hf⟩ := z_bs hf
  refine z_size (n := n + 146) hI (by omega) (Or.inr (zD_s eu152)) (fun hn => ?_)
  obtain ⟨h153, eh153, hf⟩ := z_bs hf
  refine z_new (n := (n + 146)) (ci := 1) (fs := [.null, .null, .null, .int 0, .int 0, .int 0, .int 0, .int 0, .int 0, .int 0, .int 0, .int 0, .int 0, .int 0, .int 0, .int 0]) (ty0 := t_Cmd) X hI hn i_Cmd t_Cmd_ok rfl wk_Prog_27 wn_Cmd wz_Cmd (by decide +kernel) (by decide) d_Prog_init_51 (fun H hI hn => ?_)
  rw [Option.some.inj eh153] at hI
  refine W.widen (k := 147) (n := 2252) (by decide) (by decide) ?_
  refine lv_dup hx hb d_Prog_init_54 rfl ?_
  obtain ⟨u154, eu154, hf⟩ := z_bs hf
  refine z_size (n := n + 147) hI (by omega) (Or.inr (zD_s eu154)) (fun hn => ?_)
  obtain ⟨h155, eh155, hf⟩ := z_bs hf
  refine zn_callN (n := (n + 147)) (mc := 5) (ms := 27) (As := []) (rest := [.ref (n + 146), .int 23, .ref x151]) (h' := h155) X hF hI hn (s_Cmd_init eh155) (List.mem_of_getElem? (i := 6) rfl) yn_Cmd_init rfl hl.1 rfl (Nat.le_of_ble_eq_true rfl) (by decide) (by decide) d_Prog_init_55 (fun H locs hI hn => ?_)
  refine W.widen (k := 152) (n := 2279) (by decide) (by decide) ?_
  obtain ⟨h156, eh156, hf⟩ := z_bs hf
  refine z_aast X hI eh156 rfl rfl d_Prog_init_58 (fun H locs hI => ?_)
  refine lv_iinc (v := 24) (lv' := [(1, .int 24), (0, .ref v0)]) hx hb d_Prog_init_59 hl (k := 0) rfl (by decide) (by decide) rfl (fun ls hl => ?_)
  refine lv_goto (tgt := 40) hx hb d_Prog_init_62 (by decide) ?_
  refine lv_iload_n hx hb d_Prog_init_40 rfl (lv_at hl 0 rfl) ?_
  refine lv_bipush (v := 40) hx hb d_Prog_init_41 (by decide) ?_
  refine lv_icmp_ge (tgt := 65) hx hb d_Prog_init_43 (by decide) (fun c9 => absurd c9 (by decide)) (fun _ => ?_)
  refine lv_aload_n hx hb d_Prog_init_46 rfl (lv_at hl 1 rfl) ?_
  obtain ⟨x157, ex157, hf⟩ := z_bs hf
  refine z_getF X hI (k := 2) (ci := 9) (gR_s ex157) i_Prog rfl (by decide) wf_Prog_29 d_Prog_init_47 ?_
  refine lv_iload_n hx hb d_Prog_init_50 rfl (lv_at hl 0 rfl) ?_
  obtain ⟨u158, eu158, hf⟩ := z_bs hf
  refine z_size (n := n + 152) hI (by omega) (Or.inr (zD_s eu158)) (fun hn => ?_)
  obtain ⟨h159, eh159, hf⟩ := z_bs hf
  refine z_new (n := (n + 152)) (ci := 1) (fs := [.null, .null, .null, .int 0, .int 0, .int 0, .int 0, .int 0, .int 0, .int 0, .int 0, .int 0, .int 0, .int 0, .int 0, .int 0]) (ty0 := t_Cmd) X hI hn i_Cmd t_Cmd_ok rfl wk_Prog_27 wn_Cmd wz_Cmd (by decide +kernel) (by decide) d_Prog_init_51 (fun H hI hn => ?_)
  rw [Option.some.inj eh159] at hI
  refine W.widen (k := 153) (n := 2295) (by decide) (by decide) ?_
  refine lv_dup hx hb d_Prog_init_54 rfl ?_
  obtain ⟨u160, eu160, hf⟩ := z_bs hf
  refine z_size (n := n + 153) hI (by omega) (Or.inr (zD_s eu160)) (fun hn => ?_)
  obtain ⟨h161, eh161, hf⟩ := z_bs hf
  refine zn_callN (n := (n + 153)) (mc := 5) (ms := 27) (As := []) (rest := [.ref (n + 152), .int 24, .ref x157]) (h' := h161) X hF hI hn (s_Cmd_init eh161) (List.mem_of_getElem? (i := 6) rfl) yn_Cmd_init rfl hl.1 rfl (Nat.le_of_ble_eq_true rfl) (by decide) (by decide) d_Prog_init_55 (fun H locs hI hn => ?_)
  refine W.widen (k := 158) (n := 2322) (by decide) (by decide) ?_
  obtain ⟨h162, eh162, hf⟩ := z_bs hf
  refine z_aast X hI eh162 rfl rfl d_Prog_init_58 (fun H locs hI => ?_)
  refine lv_iinc (v := 25) (lv' := [(1, .int 25), (0, .ref v0)]) hx hb d_Prog_init_59 hl (k := 0) rfl (by decide) (by decide) rfl (fun ls hl => ?_)
  refine lv_goto (tgt := 40) hx hb d_Prog_init_62 (by decide) ?_
  refine lv_iload_n hx hb d_Prog_init_40 rfl (lv_at hl 0 rfl) ?_
  refine lv_bipush (v := 40) hx hb d_Prog_init_41 (by decide) ?_
  refine lv_icmp_ge (tgt := 65) hx hb d_Prog_init_43 (by decide) (fun c9 => absurd c9 (by decide)) (fun _ => ?_)
  refine lv_aload_n hx hb d_Prog_init_46 rfl (lv_at hl 1 rfl) ?_
  obtain ⟨x163, ex163, hf⟩ := z_bs hf
  refine z_getF X hI (k := 2) (ci := 9) (gR_s ex163) i_Prog rfl (by decide) wf_Prog_29 d_Prog_init_47 ?_
  refine lv_iload_n hx hb d_Prog_init_50 rfl (lv_at hl 0 rfl) ?_
  obtain ⟨u164, eu164, hf⟩ := z_bs hf
  refine z_size (n := n + 158) hI (by omega) (Or.inr (zD_s eu164)) (fun hn => ?_)
  obtain ⟨h165, eh165, hf⟩ := z_bs hf
  refine z_new (n := (n + 158)) (ci := 1) (fs := [.null, .null, .null, .int 0, .int 0, .int 0, .int 0, .int 0, .int 0, .int 0, .int 0, .int 0, .int 0, .int 0, .int 0, .int 0]) (ty0 := t_Cmd) X hI hn i_Cmd t_Cmd_ok rfl wk_Prog_27 wn_Cmd wz_Cmd (by decide +kernel) (by decide) d_Prog_init_51 (fun H hI hn => ?_)
  rw [Option.some.inj eh165] at hI
  refine W.widen (k := 159) (n := 2338) (by decide) (by decide) ?_
  refine lv_dup hx hb d_Prog_init_54 rfl ?_
  obtain ⟨u166, eu166, hf⟩ := z_bs hf
  refine z_size (n := n + 159) hI (by omega) (Or.inr (zD_s eu166)) (fun hn => ?_)
  obtain ⟨h167, eh167, hf⟩ := z_bs hf
  refine zn_callN (n := (n + 159)) (mc := 5) (ms := 27) (As := []) (rest := [.ref (n + 158), .int 25, .ref x163]) (h' := h167) X hF hI hn (s_Cmd_init eh167) (List.mem_of_getElem? (i := 6) rfl) yn_Cmd_init rfl hl.1 rfl (Nat.le_of_ble_eq_true rfl) (by decide) (by decide) d_Prog_init_55 (fun H locs hI hn => ?_)
  refine W.widen (k := 164) (n := 2365) (by decide) (by decide) ?_
  obtain ⟨h168, eh168, hf⟩ := z_bs hf
  refine z_aast X hI eh168 rfl rfl d_Prog_init_58 (fun H locs hI => ?_)
  refine lv_iinc (v := 26) (lv' := [(1, .int 26), (0, .ref v0)]) hx hb d_Prog_init_59 hl (k := 0) rfl (by decide) (by decide) rfl (fun ls hl => ?_)
  refine lv_goto (tgt := 40) hx hb d_Prog_init_62 (by decide) ?_
  refine lv_iload_n hx hb d_Prog_init_40 rfl (lv_at hl 0 rfl) ?_
  refine lv_bipush (v := 40) hx hb d_Prog_init_41 (by decide) ?_
  refine lv_icmp_ge (tgt := 65) hx hb d_Prog_init_43 (by decide) (fun c9 => absurd c9 (by decide)) (fun _ => ?_)
  refine lv_aload_n hx hb d_Prog_init_46 rfl (lv_at hl 1 rfl) ?_
  obtain ⟨x169, ex169, hf⟩ := z_bs hf
  refine z_getF X hI (k := 2) (ci := 9) (gR_s ex169) i_Prog rfl (by decide) wf_Prog_29 d_Prog_init_47 ?_
  refine lv_iload_n hx hb d_Prog_init_50 rfl (lv_at hl 0 rfl) ?_
  obtain ⟨u170, eu170, hf⟩ := z_bs hf
  refine z_size (n := n + 164) hI (by omega) (Or.inr (zD_s eu170)) (fun hn => ?_)
  obtain ⟨h171, eh171, hf⟩ := z_bs hf
  refine z_new (n := (n + 164)) (ci := 1) (fs := [.null, .null, .null, .int 0, .int 0, .int 0, .int 0, .int 0, .int 0, .int 0, .int 0, .int 0, .int 0, .int 0, .int 0, .int 0]) (ty0 := t_Cmd) X hI hn i_Cmd t_Cmd_ok rfl wk_Prog_27 wn_Cmd wz_Cmd (by decide +kernel) (by decide) d_Prog_init_51 (fun H hI hn => ?_)
  rw [Option.some.inj eh171] at hI
  refine W.widen (k := 165) (n := 2381) (by decide) (by decide) ?_
  refine lv_dup hx hb d_Prog_init_54 rfl ?_
  obtain ⟨u172, eu172, hf⟩ := z_bs hf
  refine z_size (n := n + 165) hI (by omega) (Or.inr (zD_s eu172)) (fun hn => ?_)
  obtain ⟨h173, eh173, hf⟩ := z_bs hf
  refine zn_callN (n := (n + 165)) (mc := 5) (ms := 27) (As := []) (rest := [.ref (n + 164), .int 26, .ref x169]) (h' := h173) X hF hI hn (s_Cmd_init eh173) (List.mem_of_getElem? (i := 6) rfl) yn_Cmd_init rfl hl.1 rfl (Nat.le_of_ble_eq_true rfl) (by decide) (by decide) d_Prog_init_55 (fun H locs hI hn => ?_)
  refine W.widen (k := 170) (n := 2408) (by decide) (by decide) ?_
  obtain ⟨h174, eh174, hf⟩ := z_bs hf
  refine z_aast X hI eh174 rfl rfl d_Prog_init_58 (fun H locs hI => ?_)
  refine lv_iinc (v := 27) (lv' := [(1, .int 27), (0, .ref v0)]) hx hb d_Prog_init_59 hl (k := 0) rfl (by decide) (by decide) rfl (fun ls hl => ?_)
  refine lv_goto (tgt := 40) hx hb d_Prog_init_62 (by decide) ?_
  refine lv_iload_n hx hb d_Prog_init_40 rfl (lv_at hl 0 rfl) ?_
  refine lv_bipush (v := 40) hx hb d_Prog_init_41 (by decide) ?_
  refine lv_icmp_ge (tgt := 65) hx hb d_Prog_init_43 (by decide) (fun c9 => absurd c9 (by decide)) (fun _ => ?_)
  refine lv_aload_n hx hb d_Prog_init_46 rfl (lv_at hl 1 rfl) ?_
  obtain ⟨x175, ex175, hf⟩ := z_bs hf
  refine z_getF X hI (k := 2) (ci := 9) (gR_s ex175) i_Prog rfl (by decide) wf_Prog_29 d_Prog_init_47 ?_
  refine lv_iload_n hx hb d_Prog_init_50 rfl (lv_at hl 0 rfl) ?_
  obtain ⟨u176, eu176, hf⟩ := z_bs hf
  refine z_size (n := n + 170) hI (by omega) (Or.inr (zD_s eu176)) (fun hn => ?_)
  obtain ⟨h177, eh177, hf⟩ := z_bs hf
  refine z_new (n := (n + 170)) (ci := 1) (fs := [.null, .null, .null, .int 0, .int 0, .int 0, .int 0, .int 0, .int 0, .int 0, .int 0, .int 0, .int 0, .int 0, .int 0, .int 0]) (ty0 := t_Cmd) X hI hn i_Cmd t_Cmd_ok rfl wk_Prog_27 wn_Cmd wz_Cmd (by decide +kernel) (by decide) d_Prog_init_51 (fun H hI hn => ?_)
  rw [Option.some.inj eh177] at hI
  refine W.widen (k := 171) (n := 2424) (by decide) (by decide) ?_
  refine lv_dup hx hb d_Prog_init_54 rfl ?_
  obtain ⟨u178, eu178, hf⟩ := z_bs hf
  refine z_size (n := n + 171) hI (by omega) (Or.inr (zD_s eu178)) (fun hn => ?_)
  obtain ⟨h179, eh179, hf⟩ := z_bs hf
  refine zn_callN (n := (n + 171)) (mc := 5) (ms := 27) (As := []) (rest := [.ref (n + 170), .int 27, .ref x175]) (h' := h179) X hF hI hn (s_Cmd_init eh179) (List.mem_of_getElem? (i := 6) rfl) yn_Cmd_init rfl hl.1 rfl (Nat.le_of_ble_eq_true rfl) (by decide) (by decide) d_Prog_init_55 (fun H locs hI hn => ?_)
  refine W.widen (k := 176) (n := 2451) (by decide) (by decide) ?_
  obtain ⟨h180, eh180, hf⟩ := z_bs hf
  refine z_aast X hI eh180 rfl rfl d_Prog_init_58 (fun H locs hI => ?_)
  refine lv_iinc (v := 28) (lv' := [(1, .int 28), (0, .ref v0)]) hx hb d_Prog_init_59 hl (k := 0) rfl (by decide) (by decide) rfl (fun ls hl => ?_)
  refine lv_goto (tgt := 40) hx hb d_Prog_init_62 (by decide) ?_
  refine lv_iload_n hx hb d_Prog_init_40 rfl (lv_at hl 0 rfl) ?_
  refine lv_bipush (v := 40) hx hb d_Prog_init_41 (by decide) ?_
  refine lv_icmp_ge (tgt := 65) hx hb d_Prog_init_43 (by decide) (fun c9 => absurd c9 (by decide)) (fun _ => ?_)
  refine lv_aload_n hx hb d_Prog_init_46 rfl (lv_at hl 1 rfl) ?_
  obtain ⟨x181, ex181, hf⟩ := z_bs hf
  refine z_getF X hI (k := 2) (ci := 9) (gR_s ex181) i_Prog rfl (by decide) wf_Prog_29 d_Prog_init_47 ?_
  refine lv_iload_n hx hb d_Prog_init_50 rfl (lv_at hl 0 rfl) ?_
  obtain ⟨u182, eu182, hf⟩ := z_bs hf
  refine z_size (n := n + 176) hI (by omega) (Or.inr (zD_s eu182)) (fun hn => ?_)
  obtain ⟨h183, eh183, hf⟩ := z_bs hf
  refine z_new (n := (n + 176)) (ci := 1) (fs := [.null, .null, .null, .int 0, .int 0, .int 0, .int 0, .int 0, .int 0, .int 0, .int 0, .int 0, .int 0, .int 0, .int 0, .int 0]) (ty0 := t_Cmd) X hI hn i_Cmd t_Cmd_ok rfl wk_Prog_27 wn_Cmd wz_Cmd (by decide +kernel) (by decide) d_Prog_init_51 (fun H hI hn => ?_)
  rw [Option.some.inj eh183] at hI
  refine W.widen (k := 177) (n := 2467) (by decide) (by decide) ?_
  refine lv_dup hx hb d_Prog_init_54 rfl ?_
  obtain ⟨u184, eu184, hf⟩ := z_bs hf
  refine z_size (n := n + 177) hI (by omega) (Or.inr (zD_s eu184)) (fun hn => ?_)
  obtain ⟨h185, eh185, hf⟩ := z_bs hf
  refine zn_callN (n := (n + 177)) (mc := 5) (ms := 27) (As := []) (rest := [.ref (n + 176), .int 28, .ref x181]) (h' := h185) X hF hI hn (s_Cmd_init eh185) (List.mem_of_getElem? (i := 6) rfl) yn_Cmd_init rfl hl.1 rfl (Nat.le_of_ble_eq_true rfl) (by decide) (by decide) d_Prog_init_55 (fun H locs hI hn => ?_)
  refine W.widen (k := 182) (n := 2494) (by decide) (by decide) ?_
  obtain ⟨h186, eh186, hf⟩ := z_bs hf
  refine z_aast X hI eh186 rfl rfl d_Prog_init_58 (fun H locs hI => ?_)
  refine lv_iinc (v := 29) (lv' := [(1, .int 29), (0, .ref v0)]) hx hb d_Prog_init_59 hl (k := 0) rfl (by decide) (by decide) rfl (fun ls hl => ?_)
  refine lv_goto (tgt := 40) hx hb d_Prog_init_62 (by decide) ?_
  refine lv_iload_n hx hb d_Prog_init_40 rfl (lv_at hl 0 rfl) ?_
  refine lv_bipush (v := 40) hx hb d_Prog_init_41 (by decide) ?_
  refine lv_icmp_ge (tgt := 65) hx hb d_Prog_init_43 (by decide) (fun c9 => absurd c9 (by decide)) (fun _ => ?_)
  refine lv_aload_n hx hb d_Prog_init_46 rfl (lv_at hl 1 rfl) ?_
  obtain ⟨x187, ex187, hf⟩ := z_bs hf
  refine z_getF X hI (k := 2) (ci := 9) (gR_s ex187) i_Prog rfl (by decide) wf_Prog_29 d_Prog_init_47 ?_
  refine lv_iload_n hx hb d_Prog_init_50 rfl (lv_at hl 0 rfl) ?_
  obtain ⟨u188, eu188, hf⟩ := z_bs hf
  refine z_size (n := n + 182) hI (by omega) (Or.inr (zD_s eu188)) (fun hn => ?_)
  obtain ⟨h189, eh189, hf⟩ := z_bs hf
  refine z_new (n := (n + 182)) (ci := 1) (fs := [.null, .null, .null, .int 0, .int 0, .int 0, .int 0, .int 0, .int 0, .int 0, .int 0, .int 0, .int 0, .int 0, .int 0, .int 0]) (ty0 := t_Cmd) X hI hn i_Cmd t_Cmd_ok rfl wk_Prog_27 wn_Cmd wz_Cmd (by decide +kernel) (by decide) d_Prog_init_51 (fun H hI hn => ?_)
  rw [Option.some.inj eh189] at hI
  refine W.widen (k := 183) (n := 2510) (by decide) (by decide) ?_
  refine lv_dup hx hb d_Prog_init_54 rfl ?_
  obtain ⟨u190, eu190, hf⟩ := z_bs hf
  refine z_size (n := n + 183) hI (by omega) (Or.inr (zD_s eu190)) (fun hn => ?_)
  obtain ⟨h191, eh191, hf⟩ := z_bs hf
  refine zn_callN (n := (n + 183)) (mc := 5) (ms := 27) (As := []) (rest := [.ref (n + 182), .int 29, .ref x187]) (h' := h191) X hF hI hn (s_Cmd_init eh191) (List.mem_of_getElem? (i := 6) rfl) yn_Cmd_init rfl hl.1 rfl (Nat.le_of_ble_eq_true rfl) (by decide) (by decide) d_Prog_init_55 (fun H locs hI hn => ?_)
  refine W.widen (k := 188) (n := 2537) (by decide) (by decide) ?_
  obtain ⟨h192, eh192, hf⟩ := z_bs hf
  refine z_aast X hI eh192 rfl rfl d_Prog_init_58 (fun H locs hI => ?_)
  refine lv_iinc (v := 30) (lv' := [(1, .int 30), (0, .ref v0)]) hx hb d_Prog_init_59 hl (k := 0) rfl (by decide) (by decide) rfl (fun ls hl => ?_)
  refine lv_goto (tgt := 40) hx hb d_Prog_init_62 (by decide) ?_
  refine lv_iload_n hx hb d_Prog_init_40 rfl (lv_at hl 0 rfl) ?_
  refine lv_bipush (v := 40) hx hb d_Prog_init_41 (by decide) ?_
  refine lv_icmp_ge (tgt := 65) hx hb d_Prog_init_43 (by decide) (fun c9 => absurd c9 (by decide)) (fun _ => ?_)
  refine lv_aload_n hx hb d_Prog_init_46 rfl (lv_at hl 1 rfl) ?_
  obtain ⟨x193, ex193, hf⟩ := z_bs hf
  refine z_getF X hI (k := 2) (ci := 9) (gR_s ex193) i_Prog rfl (by decide) wf_Prog_29 d_Prog_init_47 ?_
  refine lv_iload_n hx hb d_Prog_init_50 rfl (lv_at hl 0 rfl) ?_
  obtain ⟨u194, eu194, hf⟩ := z_bs hf
  refine z_size (n := n + 188) hI (by omega) (Or.inr (zD_s eu194)) (fun hn => ?_)
  obtain ⟨h195, eh195, hf⟩ := z_bs hf
  refine z_new (n := (n + 188)) (ci := 1) (fs := [.null, .null, .null, .int 0, .int 0, .int 0, .int 0, .int 0, .int 0, .int 0, .int 0, .int 0, .int 0, .int 0, .int 0, .int 0]) (ty0 := t_Cmd) X hI hn i_Cmd t_Cmd_ok rfl wk_Prog_27 wn_Cmd wz_Cmd (by decide +kernel) (by decide) d_Prog_init_51 (fun H hI hn => ?_)
  rw [Option.some.inj eh195] at hI
  refine W.widen (k := 189) (n := 2553) (by decide) (by decide) ?_
  refine lv_dup hx hb d_Prog_init_54 rfl ?_
  obtain ⟨u196, eu196, hf⟩ := z_bs hf
  refine z_size (n := n + 189) hI (by omega) (Or.inr (zD_s eu196)) (fun hn => ?_)
  obtain ⟨h197, eh197, hf⟩ := z_bs hf
  refine zn_callN (n := (n + 189)) (mc := 5) (ms := 27) (As := []) (rest := [.ref (n + 188), .int 30, .ref x193]) (h' := h197) X hF hI hn (s_Cmd_init eh197) (List.mem_of_getElem? (i := 6) rfl) yn_Cmd_init rfl hl.1 rfl (Nat.le_of_ble_eq_true rfl) (by decide) (by decide) d_Prog_init_55 (fun H locs hI hn => ?_)
  refine W.widen (k := 194) (n := 2580) (by decide) (by decide) ?_
  obtain ⟨h198, eh198, hf⟩ := z_bs hf
  refine z_aast X hI eh198 rfl rfl d_Prog_init_58 (fun H locs hI => ?_)
  refine lv_iinc (v := 31) (lv' := [(1, .int 31), (0, .ref v0)]) hx hb d_Prog_init_59 hl (k := 0) rfl (by decide) (by decide) rfl (fun ls hl => ?_)
  refine lv_goto (tgt := 40) hx hb d_Prog_init_62 (by decide) ?_
  refine lv_iload_n hx hb d_Prog_init_40 rfl (lv_at hl 0 rfl) ?_
  refine lv_bipush (v := 40) hx hb d_Prog_init_41 (by decide) ?_
  refine lv_icmp_ge (tgt := 65) hx hb d_Prog_init_43 (by decide) (fun c9 => absurd c9 (by decide)) (fun _ => ?_)
  refine lv_aload_n hx hb d_Prog_init_46 rfl (lv_at hl 1 rfl) ?_
  obtain ⟨x199, ex199, hf⟩ := z_bs hf
  refine z_getF X hI (k := 2) (ci := 9) (gR_s ex199) i_Prog rfl (by decide) wf_Prog_29 d_Prog_init_47 ?_
  refine lv_iload_n hx hb d_Prog_init_50 rfl (lv_at hl 0 rfl) ?_
  obtain ⟨u200, eu200, hf⟩ := z_bs hf
  refine z_size (n := n + 194) hI (by omega) (Or.inr (zD_s eu200)) (fun hn => ?_)
  obtain ⟨h201, eh201, hf⟩ := z_bs hf
  refine z_new (n := (n + 194)) (ci := 1) (fs := [.null, .null, .null, .int 0, .int 0, .int 0, .int 0, .int 0, .int 0, .int 0, .int 0, .int 0, .int 0, .int 0, .int 0, .int 0]) (ty0 := t_Cmd) X hI hn i_Cmd t_Cmd_ok rfl wk_Prog_27 wn_Cmd wz_Cmd (by decide +kernel) (by decide) d_Prog_init_51 (fun H hI hn => ?_)
  rw [Option.some.inj eh201] at hI
  refine W.widen (k := 195) (n := 2596) (by decide) (by decide) ?_
  refine lv_dup hx hb d_Prog_init_54 rfl ?_
  obtain ⟨u202, eu202, hf⟩ := z_bs hf
  refine z_size (n := n + 195) hI (by omega) (Or.inr (zD_s eu202)) (fun hn => ?_)
  obtain ⟨h203, eh203, hf⟩ := z_bs hf
  refine zn_callN (n := (n + 195)) (mc := 5) (ms := 27) (As := []) (rest := [.ref (n + 194), .int 31, .ref x199]) (h' := h203) X hF hI hn (s_Cmd_init eh203) (List.mem_of_getElem? (i := 6) rfl) yn_Cmd_init rfl hl.1 rfl (Nat.le_of_ble_eq_true rfl) (by decide) (by decide) d_Prog_init_55 (fun H locs hI hn => ?_)
  refine W.widen (k := 200) (n := 2623) (by decide) (by decide) ?_
  obtain ⟨h204, eh204, hf⟩ := z_bs hf
  refine z_aast X hI eh204 rfl rfl d_Prog_init_58 (fun H locs hI => ?_)
  refine lv_iinc (v := 32) (lv' := [(1, .int 32), (0, .ref v0)]) hx hb d_Prog_init_59 hl (k := 0) rfl (by decide) (by decide) rfl (fun ls hl => ?_)
  refine lv_goto (tgt := 40) hx hb d_Prog_init_62 (by decide) ?_
  refine lv_iload_n hx hb d_Prog_init_40 rfl (lv_at hl 0 rfl) ?_
  refine lv_bipush (v := 40) hx hb d_Prog_init_41 (by decide) ?_
  refine lv_icmp_ge (tgt := 65) hx hb d_Prog_init_43 (by decide) (fun c9 => absurd c9 (by decide)) (fun _ => ?_)
  refine lv_aload_n hx hb d_Prog_init_46 rfl (lv_at hl 1 rfl) ?_
  obtain ⟨x205, ex205, hf⟩ := z_bs hf
  refine z_getF X hI (k := 2) (ci := 9) (gR_s ex205) i_Prog rfl (by decide) wf_Prog_29 d_Prog_init_47 ?_
  refine lv_iload_n hx hb d_Prog_init_50 rfl (lv_at hl 0 rfl) ?_
  obtain ⟨u206, eu206, hf⟩ := z_bs hf
  refine z_size (n := n + 200) hI (by omega) (Or.inr (zD_s eu206)) (fun hn => ?_)
  obtain ⟨h207, eh207, hf⟩ := z_bs hf
  refine z_new (n := (n + 200)) (ci := 1) (fs := [.null, .null, .null, .int 0, .int 0, .int 0, .int 0, .int 0, .int 0, .int 0, .int 0, .int 0, .int 0, .int 0, .int 0, .int 0]) (ty0 := t_Cmd) X hI hn i_Cmd t_Cmd_ok rfl wk_Prog_27 wn_Cmd wz_Cmd (by decide +kernel) (by decide) d_Prog_init_51 (fun H hI hn => ?_)
  rw [Option.some.inj eh207] at hI
  refine W.widen (k := 201) (n := 2639) (by decide) (by decide) ?_
  refine lv_dup hx hb d_Prog_init_54 rfl ?_
  obtain ⟨u208, eu208, hf⟩ := z_bs hf
  refine z_size (n := n + 201) hI (by omega) (Or.inr (zD_s eu208)) (fun hn => ?_)
  obtain ⟨h209, eh209, hf⟩ := z_bs hf
  refine zn_callN (n := (n + 201)) (mc := 5) (ms := 27) (As := []) (rest := [.ref (n + 200), .int 32, .ref x205]) (h' := h209) X hF hI hn (s_Cmd_init eh209) (List.mem_of_getElem? (i := 6) rfl) yn_Cmd_init rfl hl.1 rfl (Nat.le_of_ble_eq_true rfl) (by decide) (by decide) d_Prog_init_55 (fun H locs hI hn => ?_)
  refine W.widen (k := 206) (n := 2666) (by decide) (by decide) ?_
  obtain ⟨h210, eh210, hf⟩ := z_bs hf
  refine z_aast X hI eh210 rfl rfl d_Prog_init_58 (fun H locs hI => ?_)
  refine lv_iinc (v := 33) (lv' := [(1, .int 33), (0, .ref v0)]) hx hb d_Prog_init_59 hl (k := 0) rfl (by decide) (by decide) rfl (fun ls hl => ?_)
  refine lv_goto (tgt := 40) hx hb d_Prog_init_62 (by decide) ?_
  refine lv_iload_n hx hb d_Prog_init_40 rfl (lv_at hl 0 rfl) ?_
  refine lv_bipush (v := 40) hx hb d_Prog_init_41 (by decide) ?_
  refine lv_icmp_ge (tgt := 65) hx hb d_Prog_init_43 (by decide) (fun c9 => absurd c9 (by decide)) (fun _ => ?_)
  refine lv_aload_n hx hb d_Prog_init_46 rfl (lv_at hl 1 rfl) ?_
  obtain ⟨x211, ex211, hf⟩ := z_bs hf
  refine z_getF X hI (k := 2) (ci := 9) (gR_s ex211) i_Prog rfl (by decide) wf_Prog_29 d_Prog_init_47 ?_
  refine lv_iload_n hx hb d_Prog_init_50 rfl (lv_at hl 0 rfl) ?_
  obtain ⟨u212, eu212, hf⟩ := z_bs hf
  refine z_size (n := n + 206) hI (by omega) (Or.inr (zD_s eu212)) (fun hn => ?_)
  obtain ⟨h213, eh213, hf⟩ := z_bs hf
  refine z_new (n := (n + 206)) (ci := 1) (fs := [.null, .null, .null, .int 0, .int 0, .int 0, .int 0, .int 0, .int 0, .int 0, .int 0, .int 0, .int 0, .int 0, .int 0, .int 0]) (ty0 := t_Cmd) X hI hn i_Cmd t_Cmd_ok rfl wk_Prog_27 wn_Cmd wz_Cmd (by decide +kernel) (by decide) d_Prog_init_51 (fun H hI hn => ?_)
  rw [Option.some.inj eh213] at hI
  refine W.widen (k := 207) (n := 2682) (by decide) (by decide) ?_
  refine lv_dup hx hb d_Prog_init_54 rfl ?_
  obtain ⟨u214, eu214, hf⟩ := z_bs hf
  refine z_size (n := n + 207) hI (by omega) (Or.inr (zD_s eu214)) (fun hn => ?_)
  obtain ⟨h215, eh215, hf⟩ := z_bs hf
  refine zn_callN (n := (n + 207)) (mc := 5) (ms := 27) (As := []) (rest := [.ref (n + 206), .int 33, .ref x211]) (h' := h215) X hF hI hn (s_Cmd_init eh215) (List.mem_of_getElem? (i := 6) rfl) yn_Cmd_init rfl hl.1 rfl (Nat.le_of_ble_eq_true rfl) (by decide) (by decide) d_Prog_init_55 (fun H locs hI hn => ?_)
  refine W.widen (k := 212) (n := 2709) (by decide) (by decide) ?_
  obtain ⟨h216, eh216, hf⟩ := z_bs hf
  refine z_aast X hI eh216 rfl rfl d_Prog_init_58 (fun H locs hI => ?_)
  refine lv_iinc (v := 34) (lv' := [(1, .int 34), (0, .ref v0)]) hx hb d_Prog_init_59 hl (k := 0) rfl (by decide) (by decide) rfl (fun ls hl => ?_)
  refine lv_goto (tgt := 40) hx hb d_Prog_init_62 (by decide) ?_
  refine lv_iload_n hx hb d_Prog_init_40 rfl (lv_at hl 0 rfl) ?_
  refine lv_bipush (v := 40) hx hb d_Prog_init_41 (by decide) ?_
  refine lv_icmp_ge (tgt := 65) hx hb d_Prog_init_43 (by decide) (fun c9 => absurd c9 (by decide)) (fun _ => ?_)
  refine lv_aload_n hx hb d_Prog_init_46 rfl (lv_at hl 1 rfl) ?_
  obtain ⟨x217, ex217, hf⟩ := z_bs hf
  refine z_getF X hI (k := 2) (ci := 9) (gR_s ex217) i_Prog rfl (by decide) wf_Prog_29 d_Prog_init_47 ?_
  refine lv_iload_n hx hb d_Prog_init_50 rfl (lv_at hl 0 rfl) ?_
  obtain ⟨u218, eu218, hf⟩ := z_bs hf
  refine z_size (n := n + 212) hI (by omega) (Or.inr (zD_s eu218)) (fun hn => ?_)
  obtain ⟨h219, eh219, hf⟩ := z_bs hf
  refine z_new (n := (n + 212)) (ci := 1) (fs := [.null, .null, .null, .int 0, .int 0, .int 0, .int 0, .int 0, .int 0, .int 0, .int 0, .int 0, .int 0, .int 0, .int 0, .int 0]) (ty0 := t_Cmd) X hI hn i_Cmd t_Cmd_ok rfl wk_Prog_27 wn_Cmd wz_Cmd (by decide +kernel) (by decide) d_Prog_init_51 (fun H hI hn => ?_)
  rw [Option.some.inj eh219] at hI
  refine W.widen (k := 213) (n := 2725) (by decide) (by decide) ?_
  refine lv_dup hx hb d_Prog_init_54 rfl ?_
  obtain ⟨u220, eu220, hf⟩ := z_bs hf
  refine z_size (n := n + 213) hI (by omega) (Or.inr (zD_s eu220)) (fun hn => ?_)
  obtain ⟨h221, eh221, hf⟩ := z_bs hf
  refine zn_callN (n := (n + 213)) (mc := 5) (ms := 27) (As := []) (rest := [.ref (n + 212), .int 34, .ref x217]) (h' := h221) X hF hI hn (s_Cmd_init eh221) (List.mem_of_getElem? (i := 6) rfl) yn_Cmd_init rfl hl.1 rfl (Nat.le_of_ble_eq_true rfl) (by decide) (by decide) d_Prog_init_55 (fun H locs hI hn => ?_)
  refine W.widen (k := 218) (n := 2752) (by decide) (by decide) ?_
  obtain ⟨h222, eh222, hf⟩ := z_bs hf
  refine z_aast X hI eh222 rfl rfl d_Prog_init_58 (fun H locs hI => ?_)
  refine lv_iinc (v := 35) (lv' := [(1, .int 35), (0, .ref v0)]) hx hb d_Prog_init_59 hl (k := 0) rfl (by decide) (by decide) rfl (fun ls hl => ?_)
  refine lv_goto (tgt := 40) hx hb d_Prog_init_62 (by decide) ?_
  refine lv_iload_n hx hb d_Prog_init_40 rfl (lv_at hl 0 rfl) ?_
  refine lv_bipush (v := 40) hx hb d_Prog_init_41 (by decide) ?_
  refine lv_icmp_ge (tgt := 65) hx hb d_Prog_init_43 (by decide) (fun c9 => absurd c9 (by decide)) (fun _ => ?_)
  refine lv_aload_n hx hb d_Prog_init_46 rfl (lv_at hl 1 rfl) ?_
  obtain ⟨x223, ex223, hf⟩ := z_bs hf
  refine z_getF X hI (k := 2) (ci := 9) (gR_s ex223) i_Prog rfl (by decide) wf_Prog_29 d_Prog_init_47 ?_
  refine lv_iload_n hx hb d_Prog_init_50 rfl (lv_at hl 0 rfl) ?_
  obtain ⟨u224, eu224, hf⟩ := z_bs hf
  refine z_size (n := n + 218) hI (by omega) (Or.inr (zD_s eu224)) (fun hn => ?_)
  obtain ⟨h225, eh225, hf⟩ := z_bs hf
  refine z_new (n := (n + 218)) (ci := 1) (fs := [.null, .null, .null, .int 0, .int 0, .int 0, .int 0, .int 0, .int 0, .int 0, .int 0, .int 0, .int 0, .int 0, .int 0, .int 0]) (ty0 := t_Cmd) X hI hn i_Cmd t_Cmd_ok rfl wk_Prog_27 wn_Cmd wz_Cmd (by decide +kernel) (by decide) d_Prog_init_51 (fun H hI hn => ?_)
  rw [Option.some.inj eh225] at hI
  refine W.widen (k := 219) (n := 2768) (by decide) (by decide) ?_
  refine lv_dup hx hb d_Prog_init_54 rfl ?_
  obtain ⟨u226, eu226, hf⟩ := z_bs hf
  refine z_size (n := n + 219) hI (by omega) (Or.inr (zD_s eu226)) (fun hn => ?_)
  obtain ⟨h227, eh227, hf⟩ := z_bs hf
  refine zn_callN (n := (n + 219)) (mc := 5) (ms := 27) (As := []) (rest := [.ref (n + 218), .int 35, .ref x223]) (h' := h227) X hF hI hn (s_Cmd_init eh227) (List.mem_of_getElem? (i := 6) rfl) yn_Cmd_init rfl hl.1 rfl (Nat.le_of_ble_eq_true rfl) (by decide) (by decide) d_Prog_init_55 (fun H locs hI hn => ?_)
  refine W.widen (k := 224) (n := 2795) (by decide) (by decide) ?_
  obtain ⟨h228, eh228, hf⟩ := z_bs hf
  refine z_aast X hI eh228 rfl rfl d_Prog_init_58 (fun H locs hI => ?_)
  refine lv_iinc (v := 36) (lv' := [(1, .int 36), (0, .ref v0)]) hx hb d_Prog_init_59 hl (k := 0) rfl (by decide) (by decide) rfl (fun ls hl => ?_)
  refine lv_goto (tgt := 40) hx hb d_Prog_init_62 (by decide) ?_
  refine lv_iload_n hx hb d_Prog_init_40 rfl (lv_at hl 0 rfl) ?_
  refine lv_bipush (v := 40) hx hb d_Prog_init_41 (by decide) ?_
  refine lv_icmp_ge (tgt := 65) hx hb d_Prog_init_43 (by decide) (fun c9 => absurd c9 (by decide)) (fun _ => ?_)
  refine lv_aload_n hx hb d_Prog_init_46 rfl (lv_at hl 1 rfl) ?_
  obtain ⟨x229, ex229, hf⟩ := z_bs hf
  refine z_getF X hI (k := 2) (ci := 9) (gR_s ex229) i_Prog rfl (by decide) wf_Prog_29 d_Prog_init_47 ?_
  refine lv_iload_n hx hb d_Prog_init_50 rfl (lv_at hl 0 rfl) ?_
  obtain ⟨u230, eu230, hf⟩ := z_bs hf
  refine z_size (n := n + 224) hI (by omega) (Or.inr (zD_s eu230)) (fun hn => ?_)
  obtain ⟨h231, eh231, hf⟩ := z_bs hf
  refine z_new (n := (n + 224)) (ci := 1) (fs := [.null, .null, .null, .int 0, .int 0, .int 0, .int 0, .int 0, .int 0, .int 0, .int 0, .int 0, .int 0, .int 0, .int 0, .int 0]) (ty0 := t_Cmd) X hI hn i_Cmd t_Cmd_ok rfl wk_Prog_27 wn_Cmd wz_Cmd (by decide +kernel) (by decide) d_Prog_init_51 (fun H hI hn => ?_)
  rw [Option.some.inj eh231] at hI
  refine W.widen (k := 225) (n := 2811) (by decide) (by decide) ?_
  refine lv_dup hx hb d_Prog_init_54 rfl ?_
  obtain ⟨u232, eu232, hf⟩ := z_bs hf
  refine z_size (n := n + 225) hI (by omega) (Or.inr (zD_s eu232)) (fun hn => ?_)
  obtain ⟨h233, eh233, hf⟩ := z_bs hf
  refine zn_callN (n := (n + 225)) (mc := 5) (ms := 27) (As := []) (rest := [.ref (n + 224), .int 36, .ref x229]) (h' := h233) X hF hI hn (s_Cmd_init eh233) (List.mem_of_getElem? (i := 6) rfl) yn_Cmd_init rfl hl.1 rfl (Nat.le_of_ble_eq_true rfl) (by decide) (by decide) d_Prog_init_55 (fun H locs hI hn => ?_)
  refine W.widen (k := 230) (n := 2838) (by decide) (by decide) ?_
  obtain ⟨h234, eh234, hf⟩ := z_bs hf
  refine z_aast X hI eh234 rfl rfl d_Prog_init_58 (fun H locs hI => ?_)
  refine lv_iinc (v := 37) (lv' := [(1, .int 37), (0, .ref v0)]) hx hb d_Prog_init_59 hl (k := 0) rfl (by decide) (by decide) rfl (fun ls hl => ?_)
  refine lv_goto (tgt := 40) hx hb d_Prog_init_62 (by decide) ?_
  refine lv_iload_n hx hb d_Prog_init_40 rfl (lv_at hl 0 rfl) ?_
  refine lv_bipush (v := 40) hx hb d_Prog_init_41 (by decide) ?_
  refine lv_icmp_ge (tgt := 65) hx hb d_Prog_init_43 (by decide) (fun c9 => absurd c9 (by decide)) (fun _ => ?_)
  refine lv_aload_n hx hb d_Prog_init_46 rfl (lv_at hl 1 rfl) ?_
  obtain ⟨x235, ex235, hf⟩ := z_bs hf
  refine z_getF X hI (k := 2) (ci := 9) (gR_s ex235) i_Prog rfl (by decide) wf_Prog_29 d_Prog_init_47 ?_
  refine lv_iload_n hx hb d_Prog_init_50 rfl (lv_at hl 0 rfl) ?_
  obtain ⟨u236, eu236, hf⟩ := z_bs hf
  refine z_size (n := n + 230) hI (by omega) (Or.inr (zD_s eu236)) (fun hn => ?_)
  obtain ⟨h237, eh237, hf⟩ := z_bs hf
  refine z_new (n := (n + 230)) (ci := 1) (fs := [.null, .null, .null, .int 0, .int 0, .int 0, .int 0, .int 0, .int 0, .int 0, .int 0, .int 0, .int 0, .int 0, .int 0, .int 0]) (ty0 := t_Cmd) X hI hn i_Cmd t_Cmd_ok rfl wk_Prog_27 wn_Cmd wz_Cmd (by decide +kernel) (by decide) d_Prog_init_51 (fun H hI hn => ?_)
  rw [Option.some.inj eh237] at hI
  refine W.widen (k := 231) (n := 2854) (by decide) (by decide) ?_
  refine lv_dup hx hb d_Prog_init_54 rfl ?_
  obtain ⟨u238, eu238, hf⟩ := z_bs hf
  refine z_size (n := n + 231) hI (by omega) (Or.inr (zD_s eu238)) (fun hn => ?_)
  obtain ⟨h239, eh239, hf⟩ := z_bs hf
  refine zn_callN (n := (n + 231)) (mc := 5) (ms := 27) (As := []) (rest := [.ref (n + 230), .int 37, .ref x235]) (h' := h239) X hF hI hn (s_Cmd_init eh239) (List.mem_of_getElem? (i := 6) rfl) yn_Cmd_init rfl hl.1 rfl (Nat.le_of_ble_eq_true rfl) (by decide) (by decide) d_Prog_init_55 (fun H locs hI hn => ?_)
  refine W.widen (k := 236) (n := 2881) (by decide) (by decide) ?_
  obtain ⟨h240, eh240, hf⟩ := z_bs hf
  refine z_aast X hI eh240 rfl rfl d_Prog_init_58 (fun H locs hI => ?_)
  refine lv_iinc (v := 38) (lv' := [(1, .int 38), (0, .ref v0)]) hx hb d_Prog_init_59 hl (k := 0) rfl (by decide) (by decide) rfl (fun ls hl => ?_)
  refine lv_goto (tgt := 40) hx hb d_Prog_init_62 (by decide) ?_
  refine lv_iload_n hx hb d_Prog_init_40 rfl (lv_at hl 0 rfl) ?_
  refine lv_bipush (v := 40) hx hb d_Prog_init_41 (by decide) ?_
  refine lv_icmp_ge (tgt := 65) hx hb d_Prog_init_43 (by decide) (fun c9 => absurd c9 (by decide)) (fun _ => ?_)
  refine lv_aload_n hx hb d_Prog_init_46 rfl (lv_at hl 1 rfl) ?_
  obtain ⟨x241, ex241, hf⟩ := z_bs hf
  refine z_getF X hI (k := 2) (ci := 9) (gR_s ex241) i_Prog rfl (by decide) wf_Prog_29 d_Prog_init_47 ?_
  refine lv_iload_n hx hb d_Prog_init_50 rfl (lv_at hl 0 rfl) ?_
  obtain ⟨u242, eu242, hf⟩ := z_bs hf
  refine z_size (n := n + 236) hI (by omega) (Or.inr (zD_s eu242)) (fun hn => ?_)
  obtain ⟨h243, eh243, hf⟩ := z_bs hf
  refine z_new (n := (n + 236)) (ci := 1) (fs := [.null, .null, .null, .int 0, .int 0, .int 0, .int 0, .int 0, .int 0, .int 0, .int 0, .int 0, .int 0, .int 0, .int 0, .int 0]) (ty0 := t_Cmd) X hI hn i_Cmd t_Cmd_ok rfl wk_Prog_27 wn_Cmd wz_Cmd (by decide +kernel) (by decide) d_Prog_init_51 (fun H hI hn => ?_)
  rw [Option.some.inj eh243] at hI
  refine W.widen (k := 237) (n := 2897) (by decide) (by decide) ?_
  refine lv_dup hx hb d_Prog_init_54 rfl ?_
  obtain ⟨u244, eu244, hf⟩ := z_bs hf
  refine z_size (n := n + 237) hI (by omega) (Or.inr (zD_s eu244)) (fun hn => ?_)
  obtain ⟨h245, eh245, hf⟩ := z_bs hf
  refine zn_callN (n := (n + 237)) (mc := 5) (ms := 27) (As := []) (rest := [.ref (n + 236), .int 38, .ref x241]) (h' := h245) X hF hI hn (s_Cmd_init eh245) (List.mem_of_getElem? (i := 6) rfl) yn_Cmd_init rfl hl.1 rfl (Nat.le_of_ble_eq_true rfl) (by decide) (by decide) d_Prog_init_55 (fun H locs hI hn => ?_)
  refine W.widen (k := 242) (n := 2924) (by decide) (by decide) ?_
  obtain ⟨h246, eh246, hf⟩ := z_bs hf
  refine z_aast X hI eh246 rfl rfl d_Prog_init_58 (fun H locs hI => ?_)
  refine lv_iinc (v := 39) (lv' := [(1, .int 39), (0, .ref v0)]) hx hb d_Prog_init_59 hl (k := 0) rfl (by decide) (by decide) rfl (fun ls hl => ?_)
  refine lv_goto (tgt := 40) hx hb d_Prog_init_62 (by decide) ?_
  refine lv_iload_n hx hb d_Prog_init_40 rfl (lv_at hl 0 rfl) ?_
  refine lv_bipush (v := 40) hx hb d_Prog_init_41 (by decide) ?_
  refine lv_icmp_ge (tgt := 65) hx hb d_Prog_init_43 (by decide) (fun c9 => absurd c9 (by decide)) (fun _ => ?_)
  refine lv_aload_n hx hb d_Prog_init_46 rfl (lv_at hl 1 rfl) ?_
  obtain ⟨x247, ex247, hf⟩ := z_bs hf
  refine z_getF X hI (k := 2) (ci := 9) (gR_s ex247) i_Prog rfl (by decide) wf_Prog_29 d_Prog_init_47 ?_
  refine lv_iload_n hx hb d_Prog_init_50 rfl (lv_at hl 0 rfl) ?_
  obtain ⟨u248, eu248, hf⟩ := z_bs hf
  refine z_size (n := n + 242) hI (by omega) (Or.inr (zD_s eu248)) (fun hn => ?_)
  obtain ⟨h249, eh249, hf⟩ := z_bs hf
  refine z_new (n := (n + 242)) (ci := 1) (fs := [.null, .null, .null, .int 0, .int 0, .int 0, .int 0, .int 0, .int 0, .int 0, .int 0, .int 0, .int 0, .int 0, .int 0, .int 0]) (ty0 := t_Cmd) X hI hn i_Cmd t_Cmd_ok rfl wk_Prog_27 wn_Cmd wz_Cmd (by decide +kernel) (by decide) d_Prog_init_51 (fun H hI hn => ?_)
  rw [Option.some.inj eh249] at hI
  refine W.widen (k := 243) (n := 2940) (by decide) (by decide) ?_
  refine lv_dup hx hb d_Prog_init_54 rfl ?_
  obtain ⟨u250, eu250, hf⟩ := z_bs hf
  refine z_size (n := n + 243) hI (by omega) (Or.inr (zD_s eu250)) (fun hn => ?_)
  obtain ⟨h251, eh251, hf⟩ := z_bs hf
  refine zn_callN (n := (n + 243)) (mc := 5) (ms := 27) (As := []) (rest := [.ref (n + 242), .int 39, .ref x247]) (h' := h251) X hF hI hn (s_Cmd_init eh251) (List.mem_of_getElem? (i := 6) rfl) yn_Cmd_init rfl hl.1 rfl (Nat.le_of_ble_eq_true rfl) (by decide) (by decide) d_Prog_init_55 (fun H locs hI hn => ?_)
  refine W.widen (k := 248) (n := 2967) (by decide) (by decide) ?_
  obtain ⟨h252, eh252, hf⟩ := z_bs hf
  refine z_aast X hI eh252 rfl rfl d_Prog_init_58 (fun H locs hI => ?_)
  refine lv_iinc (v := 40) (lv' := [(1, .int 40), (0, .ref v0)]) hx hb d_Prog_init_59 hl (k := 0) rfl (by decide) (by decide) rfl (fun ls hl => ?_)
  refine lv_goto (tgt := 40) hx hb d_Prog_init_62 (by decide) ?_
  refine lv_iload_n hx hb d_Prog_init_40 rfl (lv_at hl 0 rfl) ?_
  refine lv_bipush (v := 40) hx hb d_Prog_init_41 (by decide) ?_
  refine lv_icmp_ge (tgt := 65) hx hb d_Prog_init_43 (by decide) (fun _ => ?_) (fun c9 => absurd (by decide) c9)
  obtain ⟨u253, eu253, hf⟩ := z_bs hf
  refine z_size (n := n + 248) hI (by omega) (Or.inr (zD_s eu253)) (fun hn => ?_)
  cases hf
  exact zn_vret X hI hn d_Prog_init_65
