theorem kb0 : ip_mok 0 = true := by decide +kernel
theorem kb1 : ip_mok 1 = true := by decide +kernel
theorem kb2 : ip_mok 2 = true := by decide +kernel
theorem kb3 : ip_mok 3 = true := by decide +kernel
theorem kb4 : ip_mok 4 = true := by decide +kernel
theorem kb5 : ip_mok 5 = true := by decide +kernel
theorem kb6 : ip_mok 6 = true := by decide +kernel
theorem kb7 : ip_mok 7 = true := by decide +kernel
theorem kb8 : ip_mok 8 = true := by decide +kernel
theorem kb9 : ip_mok 9 = true := by decide +kernel
theorem kb10 : ip_mok 10 = true := by decide +kernel
theorem kb11 : ip_mok 11 = true := by decide +kernel
theorem kb12 : ip_mok 12 = true := by decide +kernel
theorem kb13 : ip_mok 13 = true := by decide +kernel
theorem kb14 : ip_mok 14 = true := by decide +kernel
theorem kb15 : ip_mok 15 = true := by decide +kernel
theorem kb16 : ip_mok 16 = true := by decide +kernel
theorem kb17 : ip_mok 17 = true := by decide +kernel
theorem kb18 : ip_mok 18 = true := by decide +kernel
theorem kb19 : ip_mok 19 = true := by decide +kernel
theorem kb20 : ip_mok 20 = true := by decide +kernel
theorem kb21 : ip_mok 21 = true := by decide +kernel
theorem kb22 : ip_mok 22 = true := by decide +kernel
theorem kb23 : ip_mok 23 = true := by decide +kernel
theorem kb24 : ip_mok 24 = true := by decide +kernel
theorem kb25 : ip_mok 25 = true := by decide +kernel
theorem kb26 : ip_mok 26 = true := by decide +kernel
theorem kb27 : ip_mok 27 = true := by decide +kernel
theorem kb28 : ip_mok 28 = true := by decide +kernel
theorem kb29 : ip_mok 29 = true := by decide +kernel
theorem kb30 : ip_mok 30 = true := by decide +kernel
theorem kb31 : ip_mok 31 = true := by decide +kernel
theorem kb32 : ip_mok 32 = true := by decide +kernel
theorem kb33 : ip_mok 33 = true := by decide +kernel
theorem kb34 : ip_mok 34 = true := by decide +kernel
theorem kb35 : ip_mok 35 = true := by decide +kernel
theorem kb36 : ip_mok 36 = true := by decide +kernel
theorem kb37 : ip_mok 37 = true := by decide +kernel
theorem kb38 : ip_mok 38 = true := by decide +kernel
theorem kb39 : ip_mok 39 = true := by decide +kernel
theorem kb40 : ip_mok 40 = true := by decide +kernel
theorem kb41 : ip_mok 41 = true := by decide +kernel
theorem kb42 : ip_mok 42 = true := by decide +kernel
theorem kb43 : ip_mok 43 = true := by decide +kernel
theorem kb44 : ip_mok 44 = true := by decide +kernel
theorem kb45 : ip_mok 45 = true := by decide +kernel
theorem kb46 : ip_mok 46 = true := by decide +kernel
theorem kb47 : ip_mok 47 = true := by decide +kernel
theorem kb48 : ip_mok 48 = true := by decide +kernel
theorem kb49 : ip_mok 49 = true := by decide +kernel
theorem kb50 : ip_mok 50 = true := by decide +kernel
theorem kb51 : ip_mok 51 = true := by decide +kernel
theorem kb52 : ip_mok 52 = true := by decide +kernel
theorem kb53 : ip_mok 53 = true := by decide +kernel
theorem kb54 : ip_mok 54 = true := by decide +kernel
theorem kb55 : ip_mok 55 = true := by decide +kernel
theorem kb56 : ip_mok 56 = true := by decide +kernel
theorem kb57 : ip_mok 57 = true := by decide +kernel
theorem kb58 : ip_mok 58 = true := by decide +kernel
theorem kb59 : ip_mok 59 = true := by decide +kernel
theorem kb60 : ip_mok 60 = true := by decide +kernel
theorem kb61 : ip_mok 61 = true := by decide +kernel
theorem kb62 : ip_mok 62 = true := by decide +kernel
theorem kb63 : ip_mok 63 = true := by decide +kernel
theorem kb64 : ip_mok 64 = true := by decide +kernel
theorem kb65 : ip_mok 65 = true := by decide +kernel
theorem kb66 : ip_mok 66 = true := by decide +kernel
theorem kb67 : ip_mok 67 = true := by decide +kernel
theorem kb68 : ip_mok 68 = true := by decide +kernel
theorem kb69 : ip_mok 69 = true := by decide +kernel
theorem kb70 : ip_mok 70 = true := by decide +kernel
theorem kb71 : ip_mok 71 = true := by decide +kernel
theorem kb72 : ip_mok 72 = true := by decide +kernel
theorem kb73 : ip_mok 73 = true := by decide +kernel
theorem kb74 : ip_mok 74 = true := by decide +kernel
theorem kb75 : ip_mok 75 = true := by decide +kernel
theorem kb76 : ip_mok 76 = true := by decide +kernel
theorem kb77 : ip_mok 77 = true := by decide +kernel
theorem kb78 : ip_mok 78 = true := by decide +kernel
theorem kb79 : ip_mok 79 = true := by decide +kernel
theorem kb80 : ip_mok 80 = true := by decide +kernel
theorem kb81 : ip_mok 81 = true := by decide +kernel
theorem kb82 : ip_mok 82 = true := by decide +kernel
theorem kb83 : ip_mok 83 = true := by decide +kernel
theorem kb84 : ip_mok 84 = true := by decide +kernel
theorem kb85 : ip_mok 85 = true := by decide +kernel
theorem kb86 : ip_mok 86 = true := by decide +kernel
theorem kb87 : ip_mok 87 = true := by decide +kernel
theorem kb88 : ip_mok 88 = true := by decide +kernel
theorem kb89 : ip_mok 89 = true := by decide +kernel
theorem kb90 : ip_mok 90 = true := by decide +kernel
theorem kb91 : ip_mok 91 = true := by decide +kernel
theorem kb92 : ip_mok 92 = true := by decide +kernel
theorem kb93 : ip_mok 93 = true := by decide +kernel
theorem kb94 : ip_mok 94 = true := by decide +kernel
theorem kb95 : ip_mok 95 = true := by decide +kernel
theorem kb96 : ip_mok 96 = true := by decide +kernel
theorem kb97 : ip_mok 97 = true := by decide +kernel
theorem kb98 : ip_mok 98 = true := by decide +kernel
theorem kb99 : ip_mok 99 = true := by decide +kernel
theorem kb100 : ip_mok 100 = true := by decide +kernel
theorem kb101 : ip_mok 101 = true := by decide +kernel
theorem kb102 : ip_mok 102 = true := by decide +kernel
theorem kb103 : ip_mok 103 = true := by decide +kernel
theorem kb104 : ip_mok 104 = true := by decide +kernel
theorem kb105 : ip_mok 105 = true := by decide +kernel
theorem kb106 : ip_mok 106 = true := by decide +kernel
theorem kb107 : ip_mok 107 = true := by decide +kernel
theorem kb108 : ip_mok 108 = true := by decide +kernel
theorem kb109 : ip_mok 109 = true := by decide +kernel
theorem kb110 : ip_mok 110 = true := by decide +kernel
theorem kb111 : ip_mok 111 = true := by decide +kernel
theorem kb112 : ip_mok 112 = true := by decide +kernel
theorem kb113 : ip_mok 113 = true := by decide +kernel
theorem kb114 : ip_mok 114 = true := by decide +kernel
theorem kb115 : ip_mok 115 = true := by decide +kernel
theorem kb116 : ip_mok 116 = true := by decide +kernel
theorem kb117 : ip_mok 117 = true := by decide +kernel
theorem kb118 : ip_mok 118 = true := by decide +kernel
theorem kb119 : ip_mok 119 = true := by decide +kernel
theorem kb120 : ip_mok 120 = true := by decide +kernel
theorem kb121 : ip_mok 121 = true := by decide +kernel
theorem kb122 : ip_mok 122 = true := by decide +kernel
theorem kb123 : ip_mok 123 = true := by decide +kernel
theorem kb124 : ip_mok 124 = true := by decide +kernel
theorem kb125 : ip_mok 125 = true := by decide +kernel
theorem kb126 : ip_mok 126 = true := by decide +kernel
theorem kb127 : ip_mok 127 = true := by decide +kernel
theorem kb128 : ip_mok 128 = true := by decide +kernel
theorem kb129 : ip_mok 129 = true := by decide +kernel
theorem kb130 : ip_mok 130 = true := by decide +kernel
theorem kb131 : ip_mok 131 = true := by decide +kernel
theorem kb132 : ip_mok 132 = true := by decide +kernel
theorem kb133 : ip_mok 133 = true := by decide +kernel
theorem kb134 : ip_mok 134 = true := by decide +kernel
theorem kb135 : ip_mok 135 = true := by decide +kernel
theorem kb136 : ip_mok 136 = true := by decide +kernel
theorem kb137 : ip_mok 137 = true := by decide +kernel
theorem kb138 : ip_mok 138 = true := by decide +kernel
theorem kb139 : ip_mok 139 = true := by decide +kernel
theorem kb140 : ip_mok 140 = true := by decide +kernel
theorem kb141 : ip_mok 141 = true := by decide +kernel
theorem kb142 : ip_mok 142 = true := by decide +kernel
theorem kb143 : ip_mok 143 = true := by decide +kernel
theorem kb144 : ip_mok 144 = true := by decide +kernel
theorem kb145 : ip_mok 145 = true := by decide +kernel
theorem kb146 : ip_mok 146 = true := by decide +kernel
theorem kb147 : ip_mok 147 = true := by decide +kernel
theorem kb148 : ip_mok 148 = true := by decide +kernel
theorem kb149 : ip_mok 149 = true := by decide +kernel
theorem kb150 : ip_mok 150 = true := by decide +kernel
theorem kb151 : ip_mok 151 = true := by decide +kernel
theorem kb152 : ip_mok 152 = true := by decide +kernel
theorem kb153 : ip_mok 153 = true := by decide +kernel
theorem kb154 : ip_mok 154 = true := by decide +kernel
theorem kb155 : ip_mok 155 = true := by decide +kernel
theorem kb156 : ip_mok 156 = true := by decide +kernel
theorem kb157 : ip_mok 157 = true := by decide +kernel
theorem kb158 : ip_mok 158 = true := by decide +kernel
theorem kb159 : ip_mok 159 = true := by decide +kernel
theorem kb160 : ip_mok 160 = true := by decide +kernel
theorem kb161 : ip_mok 161 = true := by decide +kernel
theorem kb162 : ip_mok 162 = true := by decide +kernel
theorem kb163 : ip_mok 163 = true := by decide +kernel
theorem kb164 : ip_mok 164 = true := by decide +kernel
theorem kb165 : ip_mok 165 = true := by decide +kernel
theorem kb166 : ip_mok 166 = true := by decide +kernel
theorem kb167 : ip_mok 167 = true := by decide +kernel
theorem kb168 : ip_mok 168 = true := by decide +kernel
theorem kb169 : ip_mok 169 = true := by decide +kernel
theorem kb170 : ip_mok 170 = true := by decide +kernel
theorem kb171 : ip_mok 171 = true := by decide +kernel
theorem kb172 : ip_mok 172 = true := by decide +kernel
theorem kb173 : ip_mok 173 = true := by decide +kernel
theorem kb174 : ip_mok 174 = true := by decide +kernel
theorem kb175 : ip_mok 175 = true := by decide +kernel
theorem kb176 : ip_mok 176 = true := by decide +kernel
theorem kb177 : ip_mok 177 = true := by decide +kernel
theorem kb178 : ip_mok 178 = true := by decide +kernel
theorem kb179 : ip_mok 179 = true := by decide +kernel
theorem kb180 : ip_mok 180 = true := by decide +kernel
theorem kb181 : ip_mok 181 = true := by decide +kernel
theorem kb182 : ip_mok 182 = true := by decide +kernel
theorem kb183 : ip_mok 183 = true := by decide +kernel
theorem kb184 : ip_mok 184 = true := by decide +kernel
theorem kb185 : ip_mok 185 = true := by decide +kernel
theorem kb186 : ip_mok 186 = true := by decide +kernel
theorem kb187 : ip_mok 187 = true := by decide +kernel
theorem kb188 : ip_mok 188 = true := by decide +kernel
theorem kb189 : ip_mok 189 = true := by decide +kernel
theorem kb190 : ip_mok 190 = true := by decide +kernel
theorem kb191 : ip_mok 191 = true := by decide +kernel
theorem kb192 : ip_mok 192 = true := by decide +kernel
theorem kb193 : ip_mok 193 = true := by decide +kernel
theorem kb194 : ip_mok 194 = true := by decide +kernel
theorem kb195 : ip_mok 195 = true := by decide +kernel
theorem kb196 : ip_mok 196 = true := by decide +kernel
theorem kb197 : ip_mok 197 = true := by decide +kernel
theorem kb198 : ip_mok 198 = true := by decide +kernel
theorem kb199 : ip_mok 199 = true := by decide +kernel
theorem kb200 : ip_mok 200 = true := by decide +kernel
theorem kb201 : ip_mok 201 = true := by decide +kernel
theorem kb202 : ip_mok 202 = true := by decide +kernel
theorem kb203 : ip_mok 203 = true := by decide +kernel
theorem kb204 : ip_mok 204 = true := by decide +kernel
theorem kb205 : ip_mok 205 = true := by decide +kernel
theorem kb206 : ip_mok 206 = true := by decide +kernel
theorem kb207 : ip_mok 207 = true := by decide +kernel
theorem kb208 : ip_mok 208 = true := by decide +kernel
theorem kb209 : ip_mok 209 = true := by decide +kernel
theorem kb210 : ip_mok 210 = true := by decide +kernel
theorem kb211 : ip_mok 211 = true := by decide +kernel
theorem kb212 : ip_mok 212 = true := by decide +kernel
theorem kb213 : ip_mok 213 = true := by decide +kernel
theorem kb214 : ip_mok 214 = true := by decide +kernel
theorem kb215 : ip_mok 215 = true := by decide +kernel
theorem kb216 : ip_mok 216 = true := by decide +kernel
theorem kb217 : ip_mok 217 = true := by decide +kernel
theorem kb218 : ip_mok 218 = true := by decide +kernel
theorem kb219 : ip_mok 219 = true := by decide +kernel
theorem kb220 : ip_mok 220 = true := by decide +kernel
theorem kb221 : ip_mok 221 = true := by decide +kernel
theorem kb222 : ip_mok 222 = true := by decide +kernel
theorem kb223 : ip_mok 223 = true := by decide +kernel
theorem kb224 : ip_mok 224 = true := by decide +kernel
theorem kb225 : ip_mok 225 = true := by decide +kernel
theorem kb226 : ip_mok 226 = true := by decide +kernel
theorem kb227 : ip_mok 227 = true := by decide +kernel
theorem kb228 : ip_mok 228 = true := by decide +kernel
theorem kb229 : ip_mok 229 = true := by decide +kernel
theorem kb230 : ip_mok 230 = true := by decide +kernel
theorem kb231 : ip_mok 231 = true := by decide +kernel
theorem kb232 : ip_mok 232 = true := by decide +kernel
theorem kt0 : k2_sels lw_privs = ((ip_LT.flatten).take 109).map ip_lw := by rfl
set_option maxRecDepth 100000 in
theorem kt1 : tables_1 = ((ip_LT.flatten).drop 109).map ip_lw := by rfl
theorem kc0 : (List.range 10).all (fun k => decide (ip_et ([525, 527, 529, 531, 533, 535, 537, 539, 541, 543].getD k 9999) = (14, 0, k, 0, 0))) = true := by decide +kernel
theorem kg0 : (List.range 10).all (fun k => goodWord (u_lay (ip_CN 0) (ip_FT 0) k)) = true := by decide +kernel
theorem kd0 : ∀ k, k < 10 → parseFieldDescriptor (ip_F0 k).2.2.1 = some (ip_t0 k) := by decide +kernel
theorem kn0 : ∀ a, a < 10 → ∀ b, b < 10 → a ≠ b → (ip_F0 a).2.1 ≠ (ip_F0 b).2.1 := by decide +kernel
theorem kh0 : ∀ k, k < 10 → (ip_F0 k).1 = ip_CN 0 := by decide +kernel
theorem kf0 : ∀ k, k < 10 → (ip_FK.getD 0 []).getD k 9 = (match ip_t0 k with | .int => 0 | .boolean => 1 | .long => 3 | .object _ => 2 | .array _ => 2 | _ => 9) := by decide +kernel
theorem ki0 : ip_et 128 = (13, 0, 0, 0, 0) ∧ ip_et 110 = (8, 0, 0, 0, 0) := by decide +kernel
theorem kc1 : (List.range 8).all (fun k => decide (ip_et ([170, 172, 174, 176, 178, 180, 182, 184].getD k 9999) = (14, 1, k, 0, 0))) = true := by decide +kernel
theorem kg1 : (List.range 8).all (fun k => goodWord (u_lay (ip_CN 1) (ip_FT 1) k)) = true := by decide +kernel
theorem kd1 : ∀ k, k < 8 → parseFieldDescriptor (ip_F1 k).2.2.1 = some (ip_t1 k) := by decide +kernel
theorem kn1 : ∀ a, a < 8 → ∀ b, b < 8 → a ≠ b → (ip_F1 a).2.1 ≠ (ip_F1 b).2.1 := by decide +kernel
theorem kh1 : ∀ k, k < 8 → (ip_F1 k).1 = ip_CN 1 := by decide +kernel
theorem kf1 : ∀ k, k < 8 → (ip_FK.getD 1 []).getD k 9 = (match ip_t1 k with | .int => 0 | .boolean => 1 | .long => 3 | .object _ => 2 | .array _ => 2 | _ => 9) := by decide +kernel
theorem ki1 : ip_et 136 = (13, 1, 0, 0, 0) ∧ ip_et 111 = (8, 1, 0, 0, 0) := by decide +kernel
theorem kc2 : (List.range 5).all (fun k => decide (ip_et ([436, 438, 440, 442, 444].getD k 9999) = (14, 2, k, 0, 0))) = true := by decide +kernel
theorem kg2 : (List.range 5).all (fun k => goodWord (u_lay (ip_CN 2) (ip_FT 2) k)) = true := by decide +kernel
theorem kd2 : ∀ k, k < 5 → parseFieldDescriptor (ip_F2 k).2.2.1 = some (ip_t2 k) := by decide +kernel
theorem kn2 : ∀ a, a < 5 → ∀ b, b < 5 → a ≠ b → (ip_F2 a).2.1 ≠ (ip_F2 b).2.1 := by decide +kernel
theorem kh2 : ∀ k, k < 5 → (ip_F2 k).1 = ip_CN 2 := by decide +kernel
theorem kf2 : ∀ k, k < 5 → (ip_FK.getD 2 []).getD k 9 = (match ip_t2 k with | .int => 0 | .boolean => 1 | .long => 3 | .object _ => 2 | .array _ => 2 | _ => 9) := by decide +kernel
theorem ki2 : ip_et 189 = (13, 2, 0, 0, 0) ∧ ip_et 113 = (8, 2, 0, 0, 0) := by decide +kernel
theorem kc3 : (List.range 6).all (fun k => decide (ip_et ([214, 216, 218, 220, 222, 224].getD k 9999) = (14, 3, k, 0, 0))) = true := by decide +kernel
theorem kg3 : (List.range 6).all (fun k => goodWord (u_lay (ip_CN 3) (ip_FT 3) k)) = true := by decide +kernel
theorem kd3 : ∀ k, k < 6 → parseFieldDescriptor (ip_F3 k).2.2.1 = some (ip_t3 k) := by decide +kernel
theorem kn3 : ∀ a, a < 6 → ∀ b, b < 6 → a ≠ b → (ip_F3 a).2.1 ≠ (ip_F3 b).2.1 := by decide +kernel
theorem kh3 : ∀ k, k < 6 → (ip_F3 k).1 = ip_CN 3 := by decide +kernel
theorem kf3 : ∀ k, k < 6 → (ip_FK.getD 3 []).getD k 9 = (match ip_t3 k with | .int => 0 | .boolean => 1 | .long => 3 | .object _ => 2 | .array _ => 2 | _ => 9) := by decide +kernel
theorem ki3 : ip_et 197 = (13, 3, 0, 0, 0) ∧ ip_et 114 = (8, 3, 0, 0, 0) := by decide +kernel
theorem kc4 : (List.range 4).all (fun k => decide (ip_et ([237, 239, 241, 243].getD k 9999) = (14, 4, k, 0, 0))) = true := by decide +kernel
theorem kg4 : (List.range 4).all (fun k => goodWord (u_lay (ip_CN 4) (ip_FT 4) k)) = true := by decide +kernel
theorem kd4 : ∀ k, k < 4 → parseFieldDescriptor (ip_F4 k).2.2.1 = some (ip_t4 k) := by decide +kernel
theorem kn4 : ∀ a, a < 4 → ∀ b, b < 4 → a ≠ b → (ip_F4 a).2.1 ≠ (ip_F4 b).2.1 := by decide +kernel
theorem kh4 : ∀ k, k < 4 → (ip_F4 k).1 = ip_CN 4 := by decide +kernel
theorem kf4 : ∀ k, k < 4 → (ip_FK.getD 4 []).getD k 9 = (match ip_t4 k with | .int => 0 | .boolean => 1 | .long => 3 | .object _ => 2 | .array _ => 2 | _ => 9) := by decide +kernel
theorem ki4 : ip_et 228 = (13, 4, 0, 0, 0) ∧ ip_et 115 = (8, 4, 0, 0, 0) := by decide +kernel
theorem kc5 : (List.range 3).all (fun k => decide (ip_et ([254, 256, 258].getD k 9999) = (14, 5, k, 0, 0))) = true := by decide +kernel
theorem kg5 : (List.range 3).all (fun k => goodWord (u_lay (ip_CN 5) (ip_FT 5) k)) = true := by decide +kernel
theorem kd5 : ∀ k, k < 3 → parseFieldDescriptor (ip_F5 k).2.2.1 = some (ip_t5 k) := by decide +kernel
theorem kn5 : ∀ a, a < 3 → ∀ b, b < 3 → a ≠ b → (ip_F5 a).2.1 ≠ (ip_F5 b).2.1 := by decide +kernel
theorem kh5 : ∀ k, k < 3 → (ip_F5 k).1 = ip_CN 5 := by decide +kernel
theorem kf5 : ∀ k, k < 3 → (ip_FK.getD 5 []).getD k 9 = (match ip_t5 k with | .int => 0 | .boolean => 1 | .long => 3 | .object _ => 2 | .array _ => 2 | _ => 9) := by decide +kernel
theorem ki5 : ip_et 246 = (13, 5, 0, 0, 0) ∧ ip_et 116 = (8, 5, 0, 0, 0) := by decide +kernel
theorem kc6 : (List.range 12).all (fun k => decide (ip_et ([470, 472, 474, 476, 478, 480, 482, 484, 486, 488, 490, 492].getD k 9999) = (14, 6, k, 0, 0))) = true := by decide +kernel
theorem kg6 : (List.range 12).all (fun k => goodWord (u_lay (ip_CN 6) (ip_FT 6) k)) = true := by decide +kernel
theorem kd6 : ∀ k, k < 12 → parseFieldDescriptor (ip_F6 k).2.2.1 = some (ip_t6 k) := by decide +kernel
theorem kn6 : ∀ a, a < 12 → ∀ b, b < 12 → a ≠ b → (ip_F6 a).2.1 ≠ (ip_F6 b).2.1 := by decide +kernel
theorem kh6 : ∀ k, k < 12 → (ip_F6 k).1 = ip_CN 6 := by decide +kernel
theorem kf6 : ∀ k, k < 12 → (ip_FK.getD 6 []).getD k 9 = (match ip_t6 k with | .int => 0 | .boolean => 1 | .long => 3 | .object _ => 2 | .array _ => 2 | _ => 9) := by decide +kernel
theorem ki6 : ip_et 449 = (13, 6, 0, 0, 0) ∧ ip_et 121 = (8, 6, 0, 0, 0) := by decide +kernel
theorem kc7 : (List.range 3).all (fun k => decide (ip_et ([508, 510, 512].getD k 9999) = (14, 7, k, 0, 0))) = true := by decide +kernel
theorem kg7 : (List.range 3).all (fun k => goodWord (u_lay (ip_CN 7) (ip_FT 7) k)) = true := by decide +kernel
theorem kd7 : ∀ k, k < 3 → parseFieldDescriptor (ip_F7 k).2.2.1 = some (ip_t7 k) := by decide +kernel
theorem kn7 : ∀ a, a < 3 → ∀ b, b < 3 → a ≠ b → (ip_F7 a).2.1 ≠ (ip_F7 b).2.1 := by decide +kernel
theorem kh7 : ∀ k, k < 3 → (ip_F7 k).1 = ip_CN 7 := by decide +kernel
theorem kf7 : ∀ k, k < 3 → (ip_FK.getD 7 []).getD k 9 = (match ip_t7 k with | .int => 0 | .boolean => 1 | .long => 3 | .object _ => 2 | .array _ => 2 | _ => 9) := by decide +kernel
theorem ki7 : ip_et 497 = (13, 7, 0, 0, 0) ∧ ip_et 122 = (8, 7, 0, 0, 0) := by decide +kernel
theorem kc8 : (List.range 45).all (fun k => decide (ip_et ([942, 944, 946, 948, 950, 952, 954, 956, 958, 960, 962, 964, 966, 968, 970, 972, 974, 976, 978, 980, 982, 984, 986, 988, 990, 992, 994, 996, 998, 1000, 1002, 1004, 1006, 1008, 1010, 1012, 1014, 1016, 1018, 1020, 1022, 1024, 1026, 1028, 1030].getD k 9999) = (14, 8, k, 0, 0))) = true := by decide +kernel
theorem kg8 : (List.range 45).all (fun k => goodWord (u_lay (ip_CN 8) (ip_FT 8) k)) = true := by decide +kernel
theorem kd8 : ∀ k, k < 45 → parseFieldDescriptor (ip_F8 k).2.2.1 = some (ip_t8 k) := by decide +kernel
theorem kn8 : ∀ a, a < 45 → ∀ b, b < 45 → a ≠ b → (ip_F8 a).2.1 ≠ (ip_F8 b).2.1 := by decide +kernel
theorem kh8 : ∀ k, k < 45 → (ip_F8 k).1 = ip_CN 8 := by decide +kernel
theorem kf8 : ∀ k, k < 45 → (ip_FK.getD 8 []).getD k 9 = (match ip_t8 k with | .int => 0 | .boolean => 1 | .long => 3 | .object _ => 2 | .array _ => 2 | _ => 9) := by decide +kernel
theorem ki8 : ip_et 885 = (13, 8, 0, 0, 0) ∧ ip_et 123 = (8, 8, 0, 0, 0) := by decide +kernel
