theorem ip_cls_all : ∀ ci, ci < 9 → ip_clsok ci := by
  intro ci hc
  match ci, hc with
  | 0, _ => exact ⟨rfl, ip_uws kc0 kg0, kd0, kn0, kh0, kf0⟩
  | 1, _ => exact ⟨rfl, ip_uws kc1 kg1, kd1, kn1, kh1, kf1⟩
  | 2, _ => exact ⟨rfl, ip_uws kc2 kg2, kd2, kn2, kh2, kf2⟩
  | 3, _ => exact ⟨rfl, ip_uws kc3 kg3, kd3, kn3, kh3, kf3⟩
  | 4, _ => exact ⟨rfl, ip_uws kc4 kg4, kd4, kn4, kh4, kf4⟩
  | 5, _ => exact ⟨rfl, ip_uws kc5 kg5, kd5, kn5, kh5, kf5⟩
  | 6, _ => exact ⟨rfl, ip_uws kc6 kg6, kd6, kn6, kh6, kf6⟩
  | 7, _ => exact ⟨rfl, ip_uws kc7 kg7, kd7, kn7, kh7, kf7⟩
  | 8, _ => exact ⟨rfl, ip_uws kc8 kg8, kd8, kn8, kh8, kf8⟩
  | n + 9, h => omega
theorem ip_ini_all : ∀ ci, ci < 9 → (Jvm.Cond.instantiable (ip_CN ci) (ip_NF.getD ci 0) ∈ ip_W ∧ Jvm.Cond.initialized (ip_CN ci) ∈ ip_W) := by
  intro ci hc
  match ci, hc with
  | 0, _ => exact ⟨ip_Wof ki0.1 rfl (by decide), ip_Wof ki0.2 rfl (by decide)⟩
  | 1, _ => exact ⟨ip_Wof ki1.1 rfl (by decide), ip_Wof ki1.2 rfl (by decide)⟩
  | 2, _ => exact ⟨ip_Wof ki2.1 rfl (by decide), ip_Wof ki2.2 rfl (by decide)⟩
  | 3, _ => exact ⟨ip_Wof ki3.1 rfl (by decide), ip_Wof ki3.2 rfl (by decide)⟩
  | 4, _ => exact ⟨ip_Wof ki4.1 rfl (by decide), ip_Wof ki4.2 rfl (by decide)⟩
  | 5, _ => exact ⟨ip_Wof ki5.1 rfl (by decide), ip_Wof ki5.2 rfl (by decide)⟩
  | 6, _ => exact ⟨ip_Wof ki6.1 rfl (by decide), ip_Wof ki6.2 rfl (by decide)⟩
  | 7, _ => exact ⟨ip_Wof ki7.1 rfl (by decide), ip_Wof ki7.2 rfl (by decide)⟩
  | 8, _ => exact ⟨ip_Wof ki8.1 rfl (by decide), ip_Wof ki8.2 rfl (by decide)⟩
  | n + 9, h => omega
theorem ip_mok_all : ∀ k, k < 233 → ip_mok k = true := by
  intro k hk
  match k, hk with
  | 0, _ => exact kb0
  | 1, _ => exact kb1
  | 2, _ => exact kb2
  | 3, _ => exact kb3
  | 4, _ => exact kb4
  | 5, _ => exact kb5
  | 6, _ => exact kb6
  | 7, _ => exact kb7
  | 8, _ => exact kb8
  | 9, _ => exact kb9
  | 10, _ => exact kb10
  | 11, _ => exact kb11
  | 12, _ => exact kb12
  | 13, _ => exact kb13
  | 14, _ => exact kb14
  | 15, _ => exact kb15
  | 16, _ => exact kb16
  | 17, _ => exact kb17
  | 18, _ => exact kb18
  | 19, _ => exact kb19
  | 20, _ => exact kb20
  | 21, _ => exact kb21
  | 22, _ => exact kb22
  | 23, _ => exact kb23
  | 24, _ => exact kb24
  | 25, _ => exact kb25
  | 26, _ => exact kb26
  | 27, _ => exact kb27
  | 28, _ => exact kb28
  | 29, _ => exact kb29
  | 30, _ => exact kb30
  | 31, _ => exact kb31
  | 32, _ => exact kb32
  | 33, _ => exact kb33
  | 34, _ => exact kb34
  | 35, _ => exact kb35
  | 36, _ => exact kb36
  | 37, _ => exact kb37
  | 38, _ => exact kb38
  | 39, _ => exact kb39
  | 40, _ => exact kb40
  | 41, _ => exact kb41
  | 42, _ => exact kb42
  | 43, _ => exact kb43
  | 44, _ => exact kb44
  | 45, _ => exact kb45
  | 46, _ => exact kb46
  | 47, _ => exact kb47
  | 48, _ => exact kb48
  | 49, _ => exact kb49
  | 50, _ => exact kb50
  | 51, _ => exact kb51
  | 52, _ => exact kb52
  | 53, _ => exact kb53
  | 54, _ => exact kb54
  | 55, _ => exact kb55
  | 56, _ => exact kb56
  | 57, _ => exact kb57
  | 58, _ => exact kb58
  | 59, _ => exact kb59
  | 60, _ => exact kb60
  | 61, _ => exact kb61
  | 62, _ => exact kb62
  | 63, _ => exact kb63
  | 64, _ => exact kb64
  | 65, _ => exact kb65
  | 66, _ => exact kb66
  | 67, _ => exact kb67
  | 68, _ => exact kb68
  | 69, _ => exact kb69
  | 70, _ => exact kb70
  | 71, _ => exact kb71
  | 72, _ => exact kb72
  | 73, _ => exact kb73
  | 74, _ => exact kb74
  | 75, _ => exact kb75
  | 76, _ => exact kb76
  | 77, _ => exact kb77
  | 78, _ => exact kb78
  | 79, _ => exact kb79
  | 80, _ => exact kb80
  | 81, _ => exact kb81
  | 82, _ => exact kb82
  | 83, _ => exact kb83
  | 84, _ => exact kb84
  | 85, _ => exact kb85
  | 86, _ => exact kb86
  | 87, _ => exact kb87
  | 88, _ => exact kb88
  | 89, _ => exact kb89
  | 90, _ => exact kb90
  | 91, _ => exact kb91
  | 92, _ => exact kb92
  | 93, _ => exact kb93
  | 94, _ => exact kb94
  | 95, _ => exact kb95
  | 96, _ => exact kb96
  | 97, _ => exact kb97
  | 98, _ => exact kb98
  | 99, _ => exact kb99
  | 100, _ => exact kb100
  | 101, _ => exact kb101
  | 102, _ => exact kb102
  | 103, _ => exact kb103
  | 104, _ => exact kb104
  | 105, _ => exact kb105
  | 106, _ => exact kb106
  | 107, _ => exact kb107
  | 108, _ => exact kb108
  | 109, _ => exact kb109
  | 110, _ => exact kb110
  | 111, _ => exact kb111
  | 112, _ => exact kb112
  | 113, _ => exact kb113
  | 114, _ => exact kb114
  | 115, _ => exact kb115
  | 116, _ => exact kb116
  | 117, _ => exact kb117
  | 118, _ => exact kb118
  | 119, _ => exact kb119
  | 120, _ => exact kb120
  | 121, _ => exact kb121
  | 122, _ => exact kb122
  | 123, _ => exact kb123
  | 124, _ => exact kb124
  | 125, _ => exact kb125
  | 126, _ => exact kb126
  | 127, _ => exact kb127
  | 128, _ => exact kb128
  | 129, _ => exact kb129
  | 130, _ => exact kb130
  | 131, _ => exact kb131
  | 132, _ => exact kb132
  | 133, _ => exact kb133
  | 134, _ => exact kb134
  | 135, _ => exact kb135
  | 136, _ => exact kb136
  | 137, _ => exact kb137
  | 138, _ => exact kb138
  | 139, _ => exact kb139
  | 140, _ => exact kb140
  | 141, _ => exact kb141
  | 142, _ => exact kb142
  | 143, _ => exact kb143
  | 144, _ => exact kb144
  | 145, _ => exact kb145
  | 146, _ => exact kb146
  | 147, _ => exact kb147
  | 148, _ => exact kb148
  | 149, _ => exact kb149
  | 150, _ => exact kb150
  | 151, _ => exact kb151
  | 152, _ => exact kb152
  | 153, _ => exact kb153
  | 154, _ => exact kb154
  | 155, _ => exact kb155
  | 156, _ => exact kb156
  | 157, _ => exact kb157
  | 158, _ => exact kb158
  | 159, _ => exact kb159
  | 160, _ => exact kb160
  | 161, _ => exact kb161
  | 162, _ => exact kb162
  | 163, _ => exact kb163
  | 164, _ => exact kb164
  | 165, _ => exact kb165
  | 166, _ => exact kb166
  | 167, _ => exact kb167
  | 168, _ => exact kb168
  | 169, _ => exact kb169
  | 170, _ => exact kb170
  | 171, _ => exact kb171
  | 172, _ => exact kb172
  | 173, _ => exact kb173
  | 174, _ => exact kb174
  | 175, _ => exact kb175
  | 176, _ => exact kb176
  | 177, _ => exact kb177
  | 178, _ => exact kb178
  | 179, _ => exact kb179
  | 180, _ => exact kb180
  | 181, _ => exact kb181
  | 182, _ => exact kb182
  | 183, _ => exact kb183
  | 184, _ => exact kb184
  | 185, _ => exact kb185
  | 186, _ => exact kb186
  | 187, _ => exact kb187
  | 188, _ => exact kb188
  | 189, _ => exact kb189
  | 190, _ => exact kb190
  | 191, _ => exact kb191
  | 192, _ => exact kb192
  | 193, _ => exact kb193
  | 194, _ => exact kb194
  | 195, _ => exact kb195
  | 196, _ => exact kb196
  | 197, _ => exact kb197
  | 198, _ => exact kb198
  | 199, _ => exact kb199
  | 200, _ => exact kb200
  | 201, _ => exact kb201
  | 202, _ => exact kb202
  | 203, _ => exact kb203
  | 204, _ => exact kb204
  | 205, _ => exact kb205
  | 206, _ => exact kb206
  | 207, _ => exact kb207
  | 208, _ => exact kb208
  | 209, _ => exact kb209
  | 210, _ => exact kb210
  | 211, _ => exact kb211
  | 212, _ => exact kb212
  | 213, _ => exact kb213
  | 214, _ => exact kb214
  | 215, _ => exact kb215
  | 216, _ => exact kb216
  | 217, _ => exact kb217
  | 218, _ => exact kb218
  | 219, _ => exact kb219
  | 220, _ => exact kb220
  | 221, _ => exact kb221
  | 222, _ => exact kb222
  | 223, _ => exact kb223
  | 224, _ => exact kb224
  | 225, _ => exact kb225
  | 226, _ => exact kb226
  | 227, _ => exact kb227
  | 228, _ => exact kb228
  | 229, _ => exact kb229
  | 230, _ => exact kb230
  | 231, _ => exact kb231
  | 232, _ => exact kb232
  | n + 233, h => omega
theorem kk0 : ∀ i y, ip_ins 0 i = some y → ∃ ok, ip_ck 0 (ip_cid 0) (ip_by 0) ok (ip_pc 0 (i + 1)) y = true := ip_ckA (m := 0) (l := ip_c0) rfl rfl rfl rfl ka0
theorem kk1 : ∀ i y, ip_ins 1 i = some y → ∃ ok, ip_ck 1 (ip_cid 1) (ip_by 1) ok (ip_pc 1 (i + 1)) y = true := ip_ckA (m := 1) (l := ip_c1) rfl rfl rfl rfl ka1
theorem kk2 : ∀ i y, ip_ins 2 i = some y → ∃ ok, ip_ck 2 (ip_cid 2) (ip_by 2) ok (ip_pc 2 (i + 1)) y = true := ip_ckA (m := 2) (l := ip_c2) rfl rfl rfl rfl ka2
theorem kk3 : ∀ i y, ip_ins 3 i = some y → ∃ ok, ip_ck 3 (ip_cid 3) (ip_by 3) ok (ip_pc 3 (i + 1)) y = true := ip_ckA (m := 3) (l := ip_c3) rfl rfl rfl rfl ka3
theorem kk4 : ∀ i y, ip_ins 4 i = some y → ∃ ok, ip_ck 4 (ip_cid 4) (ip_by 4) ok (ip_pc 4 (i + 1)) y = true := ip_ckA (m := 4) (l := ip_c4) rfl rfl rfl rfl ka4
theorem kk5 : ∀ i y, ip_ins 5 i = some y → ∃ ok, ip_ck 5 (ip_cid 5) (ip_by 5) ok (ip_pc 5 (i + 1)) y = true := ip_ckA (m := 5) (l := ip_c5) rfl rfl rfl rfl ka5
theorem kk6 : ∀ i y, ip_ins 6 i = some y → ∃ ok, ip_ck 6 (ip_cid 6) (ip_by 6) ok (ip_pc 6 (i + 1)) y = true := ip_ckA (m := 6) (l := ip_c6) rfl rfl rfl rfl ka6
theorem kk7 : ∀ i y, ip_ins 7 i = some y → ∃ ok, ip_ck 7 (ip_cid 7) (ip_by 7) ok (ip_pc 7 (i + 1)) y = true := ip_ckA (m := 7) (l := ip_c7) rfl rfl rfl rfl ka7
theorem kk8 : ∀ i y, ip_ins 8 i = some y → ∃ ok, ip_ck 8 (ip_cid 8) (ip_by 8) ok (ip_pc 8 (i + 1)) y = true := ip_ckA (m := 8) (l := ip_c8) rfl rfl rfl rfl ka8
theorem kk9 : ∀ i y, ip_ins 9 i = some y → ∃ ok, ip_ck 9 (ip_cid 9) (ip_by 9) ok (ip_pc 9 (i + 1)) y = true := ip_ckA (m := 9) (l := ip_c9) rfl rfl rfl rfl ka9
theorem kk10 : ∀ i y, ip_ins 10 i = some y → ∃ ok, ip_ck 10 (ip_cid 10) (ip_by 10) ok (ip_pc 10 (i + 1)) y = true := ip_ckA (m := 10) (l := ip_c10) rfl rfl rfl rfl ka10
theorem kk11 : ∀ i y, ip_ins 11 i = some y → ∃ ok, ip_ck 11 (ip_cid 11) (ip_by 11) ok (ip_pc 11 (i + 1)) y = true := ip_ckA (m := 11) (l := ip_c11) rfl rfl rfl rfl ka11
theorem kk12 : ∀ i y, ip_ins 12 i = some y → ∃ ok, ip_ck 12 (ip_cid 12) (ip_by 12) ok (ip_pc 12 (i + 1)) y = true := ip_ckA (m := 12) (l := ip_c12) rfl rfl rfl rfl ka12
theorem kk13 : ∀ i y, ip_ins 13 i = some y → ∃ ok, ip_ck 13 (ip_cid 13) (ip_by 13) ok (ip_pc 13 (i + 1)) y = true := ip_ckA (m := 13) (l := ip_c13) rfl rfl rfl rfl ka13
theorem kk14 : ∀ i y, ip_ins 14 i = some y → ∃ ok, ip_ck 14 (ip_cid 14) (ip_by 14) ok (ip_pc 14 (i + 1)) y = true := ip_ckA (m := 14) (l := ip_c14) rfl rfl rfl rfl ka14
theorem kk15 : ∀ i y, ip_ins 15 i = some y → ∃ ok, ip_ck 15 (ip_cid 15) (ip_by 15) ok (ip_pc 15 (i + 1)) y = true := ip_ckA (m := 15) (l := ip_c15) rfl rfl rfl rfl ka15
theorem kk16 : ∀ i y, ip_ins 16 i = some y → ∃ ok, ip_ck 16 (ip_cid 16) (ip_by 16) ok (ip_pc 16 (i + 1)) y = true := ip_ckA (m := 16) (l := ip_c16) rfl rfl rfl rfl ka16
theorem kk17 : ∀ i y, ip_ins 17 i = some y → ∃ ok, ip_ck 17 (ip_cid 17) (ip_by 17) ok (ip_pc 17 (i + 1)) y = true := ip_ckA (m := 17) (l := ip_c17) rfl rfl rfl rfl ka17
theorem kk18 : ∀ i y, ip_ins 18 i = some y → ∃ ok, ip_ck 18 (ip_cid 18) (ip_by 18) ok (ip_pc 18 (i + 1)) y = true := ip_ckA (m := 18) (l := ip_c18) rfl rfl rfl rfl ka18
theorem kk19 : ∀ i y, ip_ins 19 i = some y → ∃ ok, ip_ck 19 (ip_cid 19) (ip_by 19) ok (ip_pc 19 (i + 1)) y = true := ip_ckA (m := 19) (l := ip_c19) rfl rfl rfl rfl ka19
theorem kk20 : ∀ i y, ip_ins 20 i = some y → ∃ ok, ip_ck 20 (ip_cid 20) (ip_by 20) ok (ip_pc 20 (i + 1)) y = true := ip_ckA (m := 20) (l := ip_c20) rfl rfl rfl rfl ka20
theorem kk21 : ∀ i y, ip_ins 21 i = some y → ∃ ok, ip_ck 21 (ip_cid 21) (ip_by 21) ok (ip_pc 21 (i + 1)) y = true := ip_ckA (m := 21) (l := ip_c21) rfl rfl rfl rfl ka21
theorem kk22 : ∀ i y, ip_ins 22 i = some y → ∃ ok, ip_ck 22 (ip_cid 22) (ip_by 22) ok (ip_pc 22 (i + 1)) y = true := ip_ckA (m := 22) (l := ip_c22) rfl rfl rfl rfl ka22
theorem kk23 : ∀ i y, ip_ins 23 i = some y → ∃ ok, ip_ck 23 (ip_cid 23) (ip_by 23) ok (ip_pc 23 (i + 1)) y = true := ip_ckA (m := 23) (l := ip_c23) rfl rfl rfl rfl ka23
theorem kk24 : ∀ i y, ip_ins 24 i = some y → ∃ ok, ip_ck 24 (ip_cid 24) (ip_by 24) ok (ip_pc 24 (i + 1)) y = true := ip_ckA (m := 24) (l := ip_c24) rfl rfl rfl rfl ka24
theorem kk25 : ∀ i y, ip_ins 25 i = some y → ∃ ok, ip_ck 25 (ip_cid 25) (ip_by 25) ok (ip_pc 25 (i + 1)) y = true := ip_ckA (m := 25) (l := ip_c25) rfl rfl rfl rfl ka25
theorem kk26 : ∀ i y, ip_ins 26 i = some y → ∃ ok, ip_ck 26 (ip_cid 26) (ip_by 26) ok (ip_pc 26 (i + 1)) y = true := ip_ckA (m := 26) (l := ip_c26) rfl rfl rfl rfl ka26
theorem kk27 : ∀ i y, ip_ins 27 i = some y → ∃ ok, ip_ck 27 (ip_cid 27) (ip_by 27) ok (ip_pc 27 (i + 1)) y = true := ip_ckA (m := 27) (l := ip_c27) rfl rfl rfl rfl ka27
theorem kk28 : ∀ i y, ip_ins 28 i = some y → ∃ ok, ip_ck 28 (ip_cid 28) (ip_by 28) ok (ip_pc 28 (i + 1)) y = true := ip_ckA (m := 28) (l := ip_c28) rfl rfl rfl rfl ka28
theorem kk29 : ∀ i y, ip_ins 29 i = some y → ∃ ok, ip_ck 29 (ip_cid 29) (ip_by 29) ok (ip_pc 29 (i + 1)) y = true := ip_ckA (m := 29) (l := ip_c29) rfl rfl rfl rfl ka29
theorem kk30 : ∀ i y, ip_ins 30 i = some y → ∃ ok, ip_ck 30 (ip_cid 30) (ip_by 30) ok (ip_pc 30 (i + 1)) y = true := ip_ckA (m := 30) (l := ip_c30) rfl rfl rfl rfl ka30
theorem kk31 : ∀ i y, ip_ins 31 i = some y → ∃ ok, ip_ck 31 (ip_cid 31) (ip_by 31) ok (ip_pc 31 (i + 1)) y = true := ip_ckA (m := 31) (l := ip_c31) rfl rfl rfl rfl ka31
theorem kk32 : ∀ i y, ip_ins 32 i = some y → ∃ ok, ip_ck 32 (ip_cid 32) (ip_by 32) ok (ip_pc 32 (i + 1)) y = true := ip_ckA (m := 32) (l := ip_c32) rfl rfl rfl rfl ka32
theorem kk33 : ∀ i y, ip_ins 33 i = some y → ∃ ok, ip_ck 33 (ip_cid 33) (ip_by 33) ok (ip_pc 33 (i + 1)) y = true := ip_ckA (m := 33) (l := ip_c33) rfl rfl rfl rfl ka33
theorem kk34 : ∀ i y, ip_ins 34 i = some y → ∃ ok, ip_ck 34 (ip_cid 34) (ip_by 34) ok (ip_pc 34 (i + 1)) y = true := ip_ckA (m := 34) (l := ip_c34) rfl rfl rfl rfl ka34
theorem kk35 : ∀ i y, ip_ins 35 i = some y → ∃ ok, ip_ck 35 (ip_cid 35) (ip_by 35) ok (ip_pc 35 (i + 1)) y = true := ip_ckA (m := 35) (l := ip_c35) rfl rfl rfl rfl ka35
theorem kk36 : ∀ i y, ip_ins 36 i = some y → ∃ ok, ip_ck 36 (ip_cid 36) (ip_by 36) ok (ip_pc 36 (i + 1)) y = true := ip_ckA (m := 36) (l := ip_c36) rfl rfl rfl rfl ka36
theorem kk37 : ∀ i y, ip_ins 37 i = some y → ∃ ok, ip_ck 37 (ip_cid 37) (ip_by 37) ok (ip_pc 37 (i + 1)) y = true := ip_ckA (m := 37) (l := ip_c37) rfl rfl rfl rfl ka37
theorem kk38 : ∀ i y, ip_ins 38 i = some y → ∃ ok, ip_ck 38 (ip_cid 38) (ip_by 38) ok (ip_pc 38 (i + 1)) y = true := ip_ckA (m := 38) (l := ip_c38) rfl rfl rfl rfl ka38
theorem kk39 : ∀ i y, ip_ins 39 i = some y → ∃ ok, ip_ck 39 (ip_cid 39) (ip_by 39) ok (ip_pc 39 (i + 1)) y = true := ip_ckA (m := 39) (l := ip_c39) rfl rfl rfl rfl ka39
theorem kk40 : ∀ i y, ip_ins 40 i = some y → ∃ ok, ip_ck 40 (ip_cid 40) (ip_by 40) ok (ip_pc 40 (i + 1)) y = true := ip_ckA (m := 40) (l := ip_c40) rfl rfl rfl rfl ka40
theorem kk41 : ∀ i y, ip_ins 41 i = some y → ∃ ok, ip_ck 41 (ip_cid 41) (ip_by 41) ok (ip_pc 41 (i + 1)) y = true := ip_ckA (m := 41) (l := ip_c41) rfl rfl rfl rfl ka41
theorem kk42 : ∀ i y, ip_ins 42 i = some y → ∃ ok, ip_ck 42 (ip_cid 42) (ip_by 42) ok (ip_pc 42 (i + 1)) y = true := ip_ckA (m := 42) (l := ip_c42) rfl rfl rfl rfl ka42
theorem kk43 : ∀ i y, ip_ins 43 i = some y → ∃ ok, ip_ck 43 (ip_cid 43) (ip_by 43) ok (ip_pc 43 (i + 1)) y = true := ip_ckA (m := 43) (l := ip_c43) rfl rfl rfl rfl ka43
theorem kk44 : ∀ i y, ip_ins 44 i = some y → ∃ ok, ip_ck 44 (ip_cid 44) (ip_by 44) ok (ip_pc 44 (i + 1)) y = true := ip_ckA (m := 44) (l := ip_c44) rfl rfl rfl rfl ka44
theorem kk45 : ∀ i y, ip_ins 45 i = some y → ∃ ok, ip_ck 45 (ip_cid 45) (ip_by 45) ok (ip_pc 45 (i + 1)) y = true := ip_ckA (m := 45) (l := ip_c45) rfl rfl rfl rfl ka45
theorem kk46 : ∀ i y, ip_ins 46 i = some y → ∃ ok, ip_ck 46 (ip_cid 46) (ip_by 46) ok (ip_pc 46 (i + 1)) y = true := ip_ckA (m := 46) (l := ip_c46) rfl rfl rfl rfl ka46
theorem kk47 : ∀ i y, ip_ins 47 i = some y → ∃ ok, ip_ck 47 (ip_cid 47) (ip_by 47) ok (ip_pc 47 (i + 1)) y = true := ip_ckA (m := 47) (l := ip_c47) rfl rfl rfl rfl ka47
theorem kk48 : ∀ i y, ip_ins 48 i = some y → ∃ ok, ip_ck 48 (ip_cid 48) (ip_by 48) ok (ip_pc 48 (i + 1)) y = true := ip_ckA (m := 48) (l := ip_c48) rfl rfl rfl rfl ka48
theorem kk49 : ∀ i y, ip_ins 49 i = some y → ∃ ok, ip_ck 49 (ip_cid 49) (ip_by 49) ok (ip_pc 49 (i + 1)) y = true := ip_ckA (m := 49) (l := ip_c49) rfl rfl rfl rfl ka49
theorem kk50 : ∀ i y, ip_ins 50 i = some y → ∃ ok, ip_ck 50 (ip_cid 50) (ip_by 50) ok (ip_pc 50 (i + 1)) y = true := ip_ckA (m := 50) (l := ip_c50) rfl rfl rfl rfl ka50
theorem kk51 : ∀ i y, ip_ins 51 i = some y → ∃ ok, ip_ck 51 (ip_cid 51) (ip_by 51) ok (ip_pc 51 (i + 1)) y = true := ip_ckA (m := 51) (l := ip_c51) rfl rfl rfl rfl ka51
theorem kk52 : ∀ i y, ip_ins 52 i = some y → ∃ ok, ip_ck 52 (ip_cid 52) (ip_by 52) ok (ip_pc 52 (i + 1)) y = true := ip_ckA (m := 52) (l := ip_c52) rfl rfl rfl rfl ka52
theorem kk53 : ∀ i y, ip_ins 53 i = some y → ∃ ok, ip_ck 53 (ip_cid 53) (ip_by 53) ok (ip_pc 53 (i + 1)) y = true := ip_ckA (m := 53) (l := ip_c53) rfl rfl rfl rfl ka53
theorem kk54 : ∀ i y, ip_ins 54 i = some y → ∃ ok, ip_ck 54 (ip_cid 54) (ip_by 54) ok (ip_pc 54 (i + 1)) y = true := ip_ckA (m := 54) (l := ip_c54) rfl rfl rfl rfl ka54
theorem kk55 : ∀ i y, ip_ins 55 i = some y → ∃ ok, ip_ck 55 (ip_cid 55) (ip_by 55) ok (ip_pc 55 (i + 1)) y = true := ip_ckA (m := 55) (l := ip_c55) rfl rfl rfl rfl ka55
theorem kk56 : ∀ i y, ip_ins 56 i = some y → ∃ ok, ip_ck 56 (ip_cid 56) (ip_by 56) ok (ip_pc 56 (i + 1)) y = true := ip_ckA (m := 56) (l := ip_c56) rfl rfl rfl rfl ka56
theorem kk57 : ∀ i y, ip_ins 57 i = some y → ∃ ok, ip_ck 57 (ip_cid 57) (ip_by 57) ok (ip_pc 57 (i + 1)) y = true := ip_ckA (m := 57) (l := ip_c57) rfl rfl rfl rfl ka57
theorem kk58 : ∀ i y, ip_ins 58 i = some y → ∃ ok, ip_ck 58 (ip_cid 58) (ip_by 58) ok (ip_pc 58 (i + 1)) y = true := ip_ckA (m := 58) (l := ip_c58) rfl rfl rfl rfl ka58
theorem kk59 : ∀ i y, ip_ins 59 i = some y → ∃ ok, ip_ck 59 (ip_cid 59) (ip_by 59) ok (ip_pc 59 (i + 1)) y = true := ip_ckA (m := 59) (l := ip_c59) rfl rfl rfl rfl ka59
theorem kk60 : ∀ i y, ip_ins 60 i = some y → ∃ ok, ip_ck 60 (ip_cid 60) (ip_by 60) ok (ip_pc 60 (i + 1)) y = true := ip_ckA (m := 60) (l := ip_c60) rfl rfl rfl rfl ka60
theorem kk61 : ∀ i y, ip_ins 61 i = some y → ∃ ok, ip_ck 61 (ip_cid 61) (ip_by 61) ok (ip_pc 61 (i + 1)) y = true := ip_ckA (m := 61) (l := ip_c61) rfl rfl rfl rfl ka61
theorem kk62 : ∀ i y, ip_ins 62 i = some y → ∃ ok, ip_ck 62 (ip_cid 62) (ip_by 62) ok (ip_pc 62 (i + 1)) y = true := ip_ckA (m := 62) (l := ip_c62) rfl rfl rfl rfl ka62
theorem kk63 : ∀ i y, ip_ins 63 i = some y → ∃ ok, ip_ck 63 (ip_cid 63) (ip_by 63) ok (ip_pc 63 (i + 1)) y = true := ip_ckA (m := 63) (l := ip_c63) rfl rfl rfl rfl ka63
theorem kk64 : ∀ i y, ip_ins 64 i = some y → ∃ ok, ip_ck 64 (ip_cid 64) (ip_by 64) ok (ip_pc 64 (i + 1)) y = true := ip_ckA (m := 64) (l := ip_c64) rfl rfl rfl rfl ka64
theorem kk65 : ∀ i y, ip_ins 65 i = some y → ∃ ok, ip_ck 65 (ip_cid 65) (ip_by 65) ok (ip_pc 65 (i + 1)) y = true := ip_ckA (m := 65) (l := ip_c65) rfl rfl rfl rfl ka65
theorem kk66 : ∀ i y, ip_ins 66 i = some y → ∃ ok, ip_ck 66 (ip_cid 66) (ip_by 66) ok (ip_pc 66 (i + 1)) y = true := ip_ckA (m := 66) (l := ip_c66) rfl rfl rfl rfl ka66
theorem kk67 : ∀ i y, ip_ins 67 i = some y → ∃ ok, ip_ck 67 (ip_cid 67) (ip_by 67) ok (ip_pc 67 (i + 1)) y = true := ip_ckA (m := 67) (l := ip_c67) rfl rfl rfl rfl ka67
theorem kk68 : ∀ i y, ip_ins 68 i = some y → ∃ ok, ip_ck 68 (ip_cid 68) (ip_by 68) ok (ip_pc 68 (i + 1)) y = true := ip_ckA (m := 68) (l := ip_c68) rfl rfl rfl rfl ka68
theorem kk69 : ∀ i y, ip_ins 69 i = some y → ∃ ok, ip_ck 69 (ip_cid 69) (ip_by 69) ok (ip_pc 69 (i + 1)) y = true := ip_ckA (m := 69) (l := ip_c69) rfl rfl rfl rfl ka69
theorem kk70 : ∀ i y, ip_ins 70 i = some y → ∃ ok, ip_ck 70 (ip_cid 70) (ip_by 70) ok (ip_pc 70 (i + 1)) y = true := ip_ckA (m := 70) (l := ip_c70) rfl rfl rfl rfl ka70
theorem kk71 : ∀ i y, ip_ins 71 i = some y → ∃ ok, ip_ck 71 (ip_cid 71) (ip_by 71) ok (ip_pc 71 (i + 1)) y = true := ip_ckA (m := 71) (l := ip_c71) rfl rfl rfl rfl ka71
theorem kk72 : ∀ i y, ip_ins 72 i = some y → ∃ ok, ip_ck 72 (ip_cid 72) (ip_by 72) ok (ip_pc 72 (i + 1)) y = true := ip_ckA (m := 72) (l := ip_c72) rfl rfl rfl rfl ka72
theorem kk73 : ∀ i y, ip_ins 73 i = some y → ∃ ok, ip_ck 73 (ip_cid 73) (ip_by 73) ok (ip_pc 73 (i + 1)) y = true := ip_ckA (m := 73) (l := ip_c73) rfl rfl rfl rfl ka73
theorem kk74 : ∀ i y, ip_ins 74 i = some y → ∃ ok, ip_ck 74 (ip_cid 74) (ip_by 74) ok (ip_pc 74 (i + 1)) y = true := ip_ckA (m := 74) (l := ip_c74) rfl rfl rfl rfl ka74
theorem kk75 : ∀ i y, ip_ins 75 i = some y → ∃ ok, ip_ck 75 (ip_cid 75) (ip_by 75) ok (ip_pc 75 (i + 1)) y = true := ip_ckA (m := 75) (l := ip_c75) rfl rfl rfl rfl ka75
theorem kk76 : ∀ i y, ip_ins 76 i = some y → ∃ ok, ip_ck 76 (ip_cid 76) (ip_by 76) ok (ip_pc 76 (i + 1)) y = true := ip_ckA (m := 76) (l := ip_c76) rfl rfl rfl rfl ka76
theorem kk77 : ∀ i y, ip_ins 77 i = some y → ∃ ok, ip_ck 77 (ip_cid 77) (ip_by 77) ok (ip_pc 77 (i + 1)) y = true := ip_ckA (m := 77) (l := ip_c77) rfl rfl rfl rfl ka77
theorem kk78 : ∀ i y, ip_ins 78 i = some y → ∃ ok, ip_ck 78 (ip_cid 78) (ip_by 78) ok (ip_pc 78 (i + 1)) y = true := ip_ckA (m := 78) (l := ip_c78) rfl rfl rfl rfl ka78
theorem kk79 : ∀ i y, ip_ins 79 i = some y → ∃ ok, ip_ck 79 (ip_cid 79) (ip_by 79) ok (ip_pc 79 (i + 1)) y = true := ip_ckA (m := 79) (l := ip_c79) rfl rfl rfl rfl ka79
theorem kk80 : ∀ i y, ip_ins 80 i = some y → ∃ ok, ip_ck 80 (ip_cid 80) (ip_by 80) ok (ip_pc 80 (i + 1)) y = true := ip_ckA (m := 80) (l := ip_c80) rfl rfl rfl rfl ka80
theorem kk81 : ∀ i y, ip_ins 81 i = some y → ∃ ok, ip_ck 81 (ip_cid 81) (ip_by 81) ok (ip_pc 81 (i + 1)) y = true := ip_ckA (m := 81) (l := ip_c81) rfl rfl rfl rfl ka81
theorem kk82 : ∀ i y, ip_ins 82 i = some y → ∃ ok, ip_ck 82 (ip_cid 82) (ip_by 82) ok (ip_pc 82 (i + 1)) y = true := ip_ckA (m := 82) (l := ip_c82) rfl rfl rfl rfl ka82
theorem kk83 : ∀ i y, ip_ins 83 i = some y → ∃ ok, ip_ck 83 (ip_cid 83) (ip_by 83) ok (ip_pc 83 (i + 1)) y = true := ip_ckA (m := 83) (l := ip_c83) rfl rfl rfl rfl ka83
theorem kk84 : ∀ i y, ip_ins 84 i = some y → ∃ ok, ip_ck 84 (ip_cid 84) (ip_by 84) ok (ip_pc 84 (i + 1)) y = true := ip_ckA (m := 84) (l := ip_c84) rfl rfl rfl rfl ka84
theorem kk85 : ∀ i y, ip_ins 85 i = some y → ∃ ok, ip_ck 85 (ip_cid 85) (ip_by 85) ok (ip_pc 85 (i + 1)) y = true := ip_ckA (m := 85) (l := ip_c85) rfl rfl rfl rfl ka85
theorem kk86 : ∀ i y, ip_ins 86 i = some y → ∃ ok, ip_ck 86 (ip_cid 86) (ip_by 86) ok (ip_pc 86 (i + 1)) y = true := ip_ckA (m := 86) (l := ip_c86) rfl rfl rfl rfl ka86
theorem kk87 : ∀ i y, ip_ins 87 i = some y → ∃ ok, ip_ck 87 (ip_cid 87) (ip_by 87) ok (ip_pc 87 (i + 1)) y = true := ip_ckA (m := 87) (l := ip_c87) rfl rfl rfl rfl ka87
theorem kk88 : ∀ i y, ip_ins 88 i = some y → ∃ ok, ip_ck 88 (ip_cid 88) (ip_by 88) ok (ip_pc 88 (i + 1)) y = true := ip_ckA (m := 88) (l := ip_c88) rfl rfl rfl rfl ka88
theorem kk89 : ∀ i y, ip_ins 89 i = some y → ∃ ok, ip_ck 89 (ip_cid 89) (ip_by 89) ok (ip_pc 89 (i + 1)) y = true := ip_ckA (m := 89) (l := ip_c89) rfl rfl rfl rfl ka89
theorem kk90 : ∀ i y, ip_ins 90 i = some y → ∃ ok, ip_ck 90 (ip_cid 90) (ip_by 90) ok (ip_pc 90 (i + 1)) y = true := ip_ckA (m := 90) (l := ip_c90) rfl rfl rfl rfl ka90
theorem kk91 : ∀ i y, ip_ins 91 i = some y → ∃ ok, ip_ck 91 (ip_cid 91) (ip_by 91) ok (ip_pc 91 (i + 1)) y = true := ip_ckA (m := 91) (l := ip_c91) rfl rfl rfl rfl ka91
theorem kk92 : ∀ i y, ip_ins 92 i = some y → ∃ ok, ip_ck 92 (ip_cid 92) (ip_by 92) ok (ip_pc 92 (i + 1)) y = true := ip_ckA (m := 92) (l := ip_c92) rfl rfl rfl rfl ka92
theorem kk93 : ∀ i y, ip_ins 93 i = some y → ∃ ok, ip_ck 93 (ip_cid 93) (ip_by 93) ok (ip_pc 93 (i + 1)) y = true := ip_ckA (m := 93) (l := ip_c93) rfl rfl rfl rfl ka93
theorem kk94 : ∀ i y, ip_ins 94 i = some y → ∃ ok, ip_ck 94 (ip_cid 94) (ip_by 94) ok (ip_pc 94 (i + 1)) y = true := ip_ckA (m := 94) (l := ip_c94) rfl rfl rfl rfl ka94
theorem kk95 : ∀ i y, ip_ins 95 i = some y → ∃ ok, ip_ck 95 (ip_cid 95) (ip_by 95) ok (ip_pc 95 (i + 1)) y = true := ip_ckA (m := 95) (l := ip_c95) rfl rfl rfl rfl ka95
theorem kk96 : ∀ i y, ip_ins 96 i = some y → ∃ ok, ip_ck 96 (ip_cid 96) (ip_by 96) ok (ip_pc 96 (i + 1)) y = true := ip_ckA (m := 96) (l := ip_c96) rfl rfl rfl rfl ka96
theorem kk97 : ∀ i y, ip_ins 97 i = some y → ∃ ok, ip_ck 97 (ip_cid 97) (ip_by 97) ok (ip_pc 97 (i + 1)) y = true := ip_ckA (m := 97) (l := ip_c97) rfl rfl rfl rfl ka97
theorem kk98 : ∀ i y, ip_ins 98 i = some y → ∃ ok, ip_ck 98 (ip_cid 98) (ip_by 98) ok (ip_pc 98 (i + 1)) y = true := ip_ckA (m := 98) (l := ip_c98) rfl rfl rfl rfl ka98
theorem kk99 : ∀ i y, ip_ins 99 i = some y → ∃ ok, ip_ck 99 (ip_cid 99) (ip_by 99) ok (ip_pc 99 (i + 1)) y = true := ip_ckA (m := 99) (l := ip_c99) rfl rfl rfl rfl ka99
theorem kk100 : ∀ i y, ip_ins 100 i = some y → ∃ ok, ip_ck 100 (ip_cid 100) (ip_by 100) ok (ip_pc 100 (i + 1)) y = true := ip_ckA (m := 100) (l := ip_c100) rfl rfl rfl rfl ka100
theorem kk101 : ∀ i y, ip_ins 101 i = some y → ∃ ok, ip_ck 101 (ip_cid 101) (ip_by 101) ok (ip_pc 101 (i + 1)) y = true := ip_ckA (m := 101) (l := ip_c101) rfl rfl rfl rfl ka101
theorem kk102 : ∀ i y, ip_ins 102 i = some y → ∃ ok, ip_ck 102 (ip_cid 102) (ip_by 102) ok (ip_pc 102 (i + 1)) y = true := ip_ckA (m := 102) (l := ip_c102) rfl rfl rfl rfl ka102
theorem kk103 : ∀ i y, ip_ins 103 i = some y → ∃ ok, ip_ck 103 (ip_cid 103) (ip_by 103) ok (ip_pc 103 (i + 1)) y = true := ip_ckA (m := 103) (l := ip_c103) rfl rfl rfl rfl ka103
theorem kk104 : ∀ i y, ip_ins 104 i = some y → ∃ ok, ip_ck 104 (ip_cid 104) (ip_by 104) ok (ip_pc 104 (i + 1)) y = true := ip_ckA (m := 104) (l := ip_c104) rfl rfl rfl rfl ka104
theorem kk105 : ∀ i y, ip_ins 105 i = some y → ∃ ok, ip_ck 105 (ip_cid 105) (ip_by 105) ok (ip_pc 105 (i + 1)) y = true := ip_ckA (m := 105) (l := ip_c105) rfl rfl rfl rfl ka105
theorem kk106 : ∀ i y, ip_ins 106 i = some y → ∃ ok, ip_ck 106 (ip_cid 106) (ip_by 106) ok (ip_pc 106 (i + 1)) y = true := ip_ckA (m := 106) (l := ip_c106) rfl rfl rfl rfl ka106
theorem kk107 : ∀ i y, ip_ins 107 i = some y → ∃ ok, ip_ck 107 (ip_cid 107) (ip_by 107) ok (ip_pc 107 (i + 1)) y = true := ip_ckA (m := 107) (l := ip_c107) rfl rfl rfl rfl ka107
theorem kk108 : ∀ i y, ip_ins 108 i = some y → ∃ ok, ip_ck 108 (ip_cid 108) (ip_by 108) ok (ip_pc 108 (i + 1)) y = true := ip_ckA (m := 108) (l := ip_c108) rfl rfl rfl rfl ka108
theorem kk109 : ∀ i y, ip_ins 109 i = some y → ∃ ok, ip_ck 109 (ip_cid 109) (ip_by 109) ok (ip_pc 109 (i + 1)) y = true := ip_ckA (m := 109) (l := ip_c109) rfl rfl rfl rfl ka109
theorem kk110 : ∀ i y, ip_ins 110 i = some y → ∃ ok, ip_ck 110 (ip_cid 110) (ip_by 110) ok (ip_pc 110 (i + 1)) y = true := ip_ckA (m := 110) (l := ip_c110) rfl rfl rfl rfl ka110
theorem kk111 : ∀ i y, ip_ins 111 i = some y → ∃ ok, ip_ck 111 (ip_cid 111) (ip_by 111) ok (ip_pc 111 (i + 1)) y = true := ip_ckA (m := 111) (l := ip_c111) rfl rfl rfl rfl ka111
theorem kk112 : ∀ i y, ip_ins 112 i = some y → ∃ ok, ip_ck 112 (ip_cid 112) (ip_by 112) ok (ip_pc 112 (i + 1)) y = true := ip_ckA (m := 112) (l := ip_c112) rfl rfl rfl rfl ka112
theorem kk113 : ∀ i y, ip_ins 113 i = some y → ∃ ok, ip_ck 113 (ip_cid 113) (ip_by 113) ok (ip_pc 113 (i + 1)) y = true := ip_ckA (m := 113) (l := ip_c113) rfl rfl rfl rfl ka113
theorem kk114 : ∀ i y, ip_ins 114 i = some y → ∃ ok, ip_ck 114 (ip_cid 114) (ip_by 114) ok (ip_pc 114 (i + 1)) y = true := ip_ckA (m := 114) (l := ip_c114) rfl rfl rfl rfl ka114
theorem kk115 : ∀ i y, ip_ins 115 i = some y → ∃ ok, ip_ck 115 (ip_cid 115) (ip_by 115) ok (ip_pc 115 (i + 1)) y = true := ip_ckA (m := 115) (l := ip_c115) rfl rfl rfl rfl ka115
theorem kk116 : ∀ i y, ip_ins 116 i = some y → ∃ ok, ip_ck 116 (ip_cid 116) (ip_by 116) ok (ip_pc 116 (i + 1)) y = true := ip_ckA (m := 116) (l := ip_c116) rfl rfl rfl rfl ka116
theorem kk117 : ∀ i y, ip_ins 117 i = some y → ∃ ok, ip_ck 117 (ip_cid 117) (ip_by 117) ok (ip_pc 117 (i + 1)) y = true := ip_ckA (m := 117) (l := ip_c117) rfl rfl rfl rfl ka117
theorem kk118 : ∀ i y, ip_ins 118 i = some y → ∃ ok, ip_ck 118 (ip_cid 118) (ip_by 118) ok (ip_pc 118 (i + 1)) y = true := ip_ckA (m := 118) (l := ip_c118) rfl rfl rfl rfl ka118
theorem kk119 : ∀ i y, ip_ins 119 i = some y → ∃ ok, ip_ck 119 (ip_cid 119) (ip_by 119) ok (ip_pc 119 (i + 1)) y = true := ip_ckA (m := 119) (l := ip_c119) rfl rfl rfl rfl ka119
theorem kk120 : ∀ i y, ip_ins 120 i = some y → ∃ ok, ip_ck 120 (ip_cid 120) (ip_by 120) ok (ip_pc 120 (i + 1)) y = true := ip_ckA (m := 120) (l := ip_c120) rfl rfl rfl rfl ka120
theorem kk121 : ∀ i y, ip_ins 121 i = some y → ∃ ok, ip_ck 121 (ip_cid 121) (ip_by 121) ok (ip_pc 121 (i + 1)) y = true := ip_ckA (m := 121) (l := ip_c121) rfl rfl rfl rfl ka121
theorem kk122 : ∀ i y, ip_ins 122 i = some y → ∃ ok, ip_ck 122 (ip_cid 122) (ip_by 122) ok (ip_pc 122 (i + 1)) y = true := ip_ckA (m := 122) (l := ip_c122) rfl rfl rfl rfl ka122
theorem kk123 : ∀ i y, ip_ins 123 i = some y → ∃ ok, ip_ck 123 (ip_cid 123) (ip_by 123) ok (ip_pc 123 (i + 1)) y = true := ip_ckA (m := 123) (l := ip_c123) rfl rfl rfl rfl ka123
theorem kk124 : ∀ i y, ip_ins 124 i = some y → ∃ ok, ip_ck 124 (ip_cid 124) (ip_by 124) ok (ip_pc 124 (i + 1)) y = true := ip_ckA (m := 124) (l := ip_c124) rfl rfl rfl rfl ka124
theorem kk125 : ∀ i y, ip_ins 125 i = some y → ∃ ok, ip_ck 125 (ip_cid 125) (ip_by 125) ok (ip_pc 125 (i + 1)) y = true := ip_ckA (m := 125) (l := ip_c125) rfl rfl rfl rfl ka125
theorem kk126 : ∀ i y, ip_ins 126 i = some y → ∃ ok, ip_ck 126 (ip_cid 126) (ip_by 126) ok (ip_pc 126 (i + 1)) y = true := ip_ckA (m := 126) (l := ip_c126) rfl rfl rfl rfl ka126
theorem kk127 : ∀ i y, ip_ins 127 i = some y → ∃ ok, ip_ck 127 (ip_cid 127) (ip_by 127) ok (ip_pc 127 (i + 1)) y = true := ip_ckA (m := 127) (l := ip_c127) rfl rfl rfl rfl ka127
theorem kk128 : ∀ i y, ip_ins 128 i = some y → ∃ ok, ip_ck 128 (ip_cid 128) (ip_by 128) ok (ip_pc 128 (i + 1)) y = true := ip_ckA (m := 128) (l := ip_c128) rfl rfl rfl rfl ka128
theorem kk129 : ∀ i y, ip_ins 129 i = some y → ∃ ok, ip_ck 129 (ip_cid 129) (ip_by 129) ok (ip_pc 129 (i + 1)) y = true := ip_ckA (m := 129) (l := ip_c129) rfl rfl rfl rfl ka129
theorem kk130 : ∀ i y, ip_ins 130 i = some y → ∃ ok, ip_ck 130 (ip_cid 130) (ip_by 130) ok (ip_pc 130 (i + 1)) y = true := ip_ckA (m := 130) (l := ip_c130) rfl rfl rfl rfl ka130
theorem kk131 : ∀ i y, ip_ins 131 i = some y → ∃ ok, ip_ck 131 (ip_cid 131) (ip_by 131) ok (ip_pc 131 (i + 1)) y = true := ip_ckA (m := 131) (l := ip_c131) rfl rfl rfl rfl ka131
theorem kk132 : ∀ i y, ip_ins 132 i = some y → ∃ ok, ip_ck 132 (ip_cid 132) (ip_by 132) ok (ip_pc 132 (i + 1)) y = true := ip_ckA (m := 132) (l := ip_c132) rfl rfl rfl rfl ka132
theorem kk133 : ∀ i y, ip_ins 133 i = some y → ∃ ok, ip_ck 133 (ip_cid 133) (ip_by 133) ok (ip_pc 133 (i + 1)) y = true := ip_ckA (m := 133) (l := ip_c133) rfl rfl rfl rfl ka133
theorem kk134 : ∀ i y, ip_ins 134 i = some y → ∃ ok, ip_ck 134 (ip_cid 134) (ip_by 134) ok (ip_pc 134 (i + 1)) y = true := ip_ckA (m := 134) (l := ip_c134) rfl rfl rfl rfl ka134
theorem kk135 : ∀ i y, ip_ins 135 i = some y → ∃ ok, ip_ck 135 (ip_cid 135) (ip_by 135) ok (ip_pc 135 (i + 1)) y = true := ip_ckA (m := 135) (l := ip_c135) rfl rfl rfl rfl ka135
theorem kk136 : ∀ i y, ip_ins 136 i = some y → ∃ ok, ip_ck 136 (ip_cid 136) (ip_by 136) ok (ip_pc 136 (i + 1)) y = true := ip_ckA (m := 136) (l := ip_c136) rfl rfl rfl rfl ka136
theorem kk137 : ∀ i y, ip_ins 137 i = some y → ∃ ok, ip_ck 137 (ip_cid 137) (ip_by 137) ok (ip_pc 137 (i + 1)) y = true := ip_ckA (m := 137) (l := ip_c137) rfl rfl rfl rfl ka137
theorem kk138 : ∀ i y, ip_ins 138 i = some y → ∃ ok, ip_ck 138 (ip_cid 138) (ip_by 138) ok (ip_pc 138 (i + 1)) y = true := ip_ckA (m := 138) (l := ip_c138) rfl rfl rfl rfl ka138
theorem kk139 : ∀ i y, ip_ins 139 i = some y → ∃ ok, ip_ck 139 (ip_cid 139) (ip_by 139) ok (ip_pc 139 (i + 1)) y = true := ip_ckA (m := 139) (l := ip_c139) rfl rfl rfl rfl ka139
theorem kk140 : ∀ i y, ip_ins 140 i = some y → ∃ ok, ip_ck 140 (ip_cid 140) (ip_by 140) ok (ip_pc 140 (i + 1)) y = true := ip_ckA (m := 140) (l := ip_c140) rfl rfl rfl rfl ka140
theorem kk141 : ∀ i y, ip_ins 141 i = some y → ∃ ok, ip_ck 141 (ip_cid 141) (ip_by 141) ok (ip_pc 141 (i + 1)) y = true := ip_ckA (m := 141) (l := ip_c141) rfl rfl rfl rfl ka141
theorem kk142 : ∀ i y, ip_ins 142 i = some y → ∃ ok, ip_ck 142 (ip_cid 142) (ip_by 142) ok (ip_pc 142 (i + 1)) y = true := ip_ckA (m := 142) (l := ip_c142) rfl rfl rfl rfl ka142
theorem kk143 : ∀ i y, ip_ins 143 i = some y → ∃ ok, ip_ck 143 (ip_cid 143) (ip_by 143) ok (ip_pc 143 (i + 1)) y = true := ip_ckA (m := 143) (l := ip_c143) rfl rfl rfl rfl ka143
theorem kk144 : ∀ i y, ip_ins 144 i = some y → ∃ ok, ip_ck 144 (ip_cid 144) (ip_by 144) ok (ip_pc 144 (i + 1)) y = true := ip_ckA (m := 144) (l := ip_c144) rfl rfl rfl rfl ka144
theorem kk145 : ∀ i y, ip_ins 145 i = some y → ∃ ok, ip_ck 145 (ip_cid 145) (ip_by 145) ok (ip_pc 145 (i + 1)) y = true := ip_ckA (m := 145) (l := ip_c145) rfl rfl rfl rfl ka145
theorem kk146 : ∀ i y, ip_ins 146 i = some y → ∃ ok, ip_ck 146 (ip_cid 146) (ip_by 146) ok (ip_pc 146 (i + 1)) y = true := ip_ckA (m := 146) (l := ip_c146) rfl rfl rfl rfl ka146
theorem kk147 : ∀ i y, ip_ins 147 i = some y → ∃ ok, ip_ck 147 (ip_cid 147) (ip_by 147) ok (ip_pc 147 (i + 1)) y = true := ip_ckA (m := 147) (l := ip_c147) rfl rfl rfl rfl ka147
theorem kk148 : ∀ i y, ip_ins 148 i = some y → ∃ ok, ip_ck 148 (ip_cid 148) (ip_by 148) ok (ip_pc 148 (i + 1)) y = true := ip_ckA (m := 148) (l := ip_c148) rfl rfl rfl rfl ka148
theorem kk149 : ∀ i y, ip_ins 149 i = some y → ∃ ok, ip_ck 149 (ip_cid 149) (ip_by 149) ok (ip_pc 149 (i + 1)) y = true := ip_ckA (m := 149) (l := ip_c149) rfl rfl rfl rfl ka149
theorem kk150 : ∀ i y, ip_ins 150 i = some y → ∃ ok, ip_ck 150 (ip_cid 150) (ip_by 150) ok (ip_pc 150 (i + 1)) y = true := ip_ckA (m := 150) (l := ip_c150) rfl rfl rfl rfl ka150
theorem kk151 : ∀ i y, ip_ins 151 i = some y → ∃ ok, ip_ck 151 (ip_cid 151) (ip_by 151) ok (ip_pc 151 (i + 1)) y = true := ip_ckA (m := 151) (l := ip_c151) rfl rfl rfl rfl ka151
theorem kk152 : ∀ i y, ip_ins 152 i = some y → ∃ ok, ip_ck 152 (ip_cid 152) (ip_by 152) ok (ip_pc 152 (i + 1)) y = true := ip_ckA (m := 152) (l := ip_c152) rfl rfl rfl rfl ka152
theorem kk153 : ∀ i y, ip_ins 153 i = some y → ∃ ok, ip_ck 153 (ip_cid 153) (ip_by 153) ok (ip_pc 153 (i + 1)) y = true := ip_ckA (m := 153) (l := ip_c153) rfl rfl rfl rfl ka153
theorem kk154 : ∀ i y, ip_ins 154 i = some y → ∃ ok, ip_ck 154 (ip_cid 154) (ip_by 154) ok (ip_pc 154 (i + 1)) y = true := ip_ckA (m := 154) (l := ip_c154) rfl rfl rfl rfl ka154
theorem kk155 : ∀ i y, ip_ins 155 i = some y → ∃ ok, ip_ck 155 (ip_cid 155) (ip_by 155) ok (ip_pc 155 (i + 1)) y = true := ip_ckA (m := 155) (l := ip_c155) rfl rfl rfl rfl ka155
theorem kk156 : ∀ i y, ip_ins 156 i = some y → ∃ ok, ip_ck 156 (ip_cid 156) (ip_by 156) ok (ip_pc 156 (i + 1)) y = true := ip_ckA (m := 156) (l := ip_c156) rfl rfl rfl rfl ka156
theorem kk157 : ∀ i y, ip_ins 157 i = some y → ∃ ok, ip_ck 157 (ip_cid 157) (ip_by 157) ok (ip_pc 157 (i + 1)) y = true := ip_ckA (m := 157) (l := ip_c157) rfl rfl rfl rfl ka157
theorem kk158 : ∀ i y, ip_ins 158 i = some y → ∃ ok, ip_ck 158 (ip_cid 158) (ip_by 158) ok (ip_pc 158 (i + 1)) y = true := ip_ckA (m := 158) (l := ip_c158) rfl rfl rfl rfl ka158
theorem kk159 : ∀ i y, ip_ins 159 i = some y → ∃ ok, ip_ck 159 (ip_cid 159) (ip_by 159) ok (ip_pc 159 (i + 1)) y = true := ip_ckA (m := 159) (l := ip_c159) rfl rfl rfl rfl ka159
theorem kk160 : ∀ i y, ip_ins 160 i = some y → ∃ ok, ip_ck 160 (ip_cid 160) (ip_by 160) ok (ip_pc 160 (i + 1)) y = true := ip_ckA (m := 160) (l := ip_c160) rfl rfl rfl rfl ka160
theorem kk161 : ∀ i y, ip_ins 161 i = some y → ∃ ok, ip_ck 161 (ip_cid 161) (ip_by 161) ok (ip_pc 161 (i + 1)) y = true := ip_ckA (m := 161) (l := ip_c161) rfl rfl rfl rfl ka161
theorem kk162 : ∀ i y, ip_ins 162 i = some y → ∃ ok, ip_ck 162 (ip_cid 162) (ip_by 162) ok (ip_pc 162 (i + 1)) y = true := ip_ckA (m := 162) (l := ip_c162) rfl rfl rfl rfl ka162
theorem kk163 : ∀ i y, ip_ins 163 i = some y → ∃ ok, ip_ck 163 (ip_cid 163) (ip_by 163) ok (ip_pc 163 (i + 1)) y = true := ip_ckA (m := 163) (l := ip_c163) rfl rfl rfl rfl ka163
theorem kk164 : ∀ i y, ip_ins 164 i = some y → ∃ ok, ip_ck 164 (ip_cid 164) (ip_by 164) ok (ip_pc 164 (i + 1)) y = true := ip_ckA (m := 164) (l := ip_c164) rfl rfl rfl rfl ka164
theorem kk165 : ∀ i y, ip_ins 165 i = some y → ∃ ok, ip_ck 165 (ip_cid 165) (ip_by 165) ok (ip_pc 165 (i + 1)) y = true := ip_ckA (m := 165) (l := ip_c165) rfl rfl rfl rfl ka165
theorem kk166 : ∀ i y, ip_ins 166 i = some y → ∃ ok, ip_ck 166 (ip_cid 166) (ip_by 166) ok (ip_pc 166 (i + 1)) y = true := ip_ckA (m := 166) (l := ip_c166) rfl rfl rfl rfl ka166
theorem kk167 : ∀ i y, ip_ins 167 i = some y → ∃ ok, ip_ck 167 (ip_cid 167) (ip_by 167) ok (ip_pc 167 (i + 1)) y = true := ip_ckA (m := 167) (l := ip_c167) rfl rfl rfl rfl ka167
theorem kk168 : ∀ i y, ip_ins 168 i = some y → ∃ ok, ip_ck 168 (ip_cid 168) (ip_by 168) ok (ip_pc 168 (i + 1)) y = true := ip_ckA (m := 168) (l := ip_c168) rfl rfl rfl rfl ka168
theorem kk169 : ∀ i y, ip_ins 169 i = some y → ∃ ok, ip_ck 169 (ip_cid 169) (ip_by 169) ok (ip_pc 169 (i + 1)) y = true := ip_ckA (m := 169) (l := ip_c169) rfl rfl rfl rfl ka169
theorem kk170 : ∀ i y, ip_ins 170 i = some y → ∃ ok, ip_ck 170 (ip_cid 170) (ip_by 170) ok (ip_pc 170 (i + 1)) y = true := ip_ckA (m := 170) (l := ip_c170) rfl rfl rfl rfl ka170
theorem kk171 : ∀ i y, ip_ins 171 i = some y → ∃ ok, ip_ck 171 (ip_cid 171) (ip_by 171) ok (ip_pc 171 (i + 1)) y = true := ip_ckA (m := 171) (l := ip_c171) rfl rfl rfl rfl ka171
theorem kk172 : ∀ i y, ip_ins 172 i = some y → ∃ ok, ip_ck 172 (ip_cid 172) (ip_by 172) ok (ip_pc 172 (i + 1)) y = true := ip_ckA (m := 172) (l := ip_c172) rfl rfl rfl rfl ka172
theorem kk173 : ∀ i y, ip_ins 173 i = some y → ∃ ok, ip_ck 173 (ip_cid 173) (ip_by 173) ok (ip_pc 173 (i + 1)) y = true := ip_ckA (m := 173) (l := ip_c173) rfl rfl rfl rfl ka173
theorem kk174 : ∀ i y, ip_ins 174 i = some y → ∃ ok, ip_ck 174 (ip_cid 174) (ip_by 174) ok (ip_pc 174 (i + 1)) y = true := ip_ckA (m := 174) (l := ip_c174) rfl rfl rfl rfl ka174
theorem kk175 : ∀ i y, ip_ins 175 i = some y → ∃ ok, ip_ck 175 (ip_cid 175) (ip_by 175) ok (ip_pc 175 (i + 1)) y = true := ip_ckA (m := 175) (l := ip_c175) rfl rfl rfl rfl ka175
theorem kk176 : ∀ i y, ip_ins 176 i = some y → ∃ ok, ip_ck 176 (ip_cid 176) (ip_by 176) ok (ip_pc 176 (i + 1)) y = true := ip_ckA (m := 176) (l := ip_c176) rfl rfl rfl rfl ka176
theorem kk177 : ∀ i y, ip_ins 177 i = some y → ∃ ok, ip_ck 177 (ip_cid 177) (ip_by 177) ok (ip_pc 177 (i + 1)) y = true := ip_ckA (m := 177) (l := ip_c177) rfl rfl rfl rfl ka177
theorem kk178 : ∀ i y, ip_ins 178 i = some y → ∃ ok, ip_ck 178 (ip_cid 178) (ip_by 178) ok (ip_pc 178 (i + 1)) y = true := ip_ckA (m := 178) (l := ip_c178) rfl rfl rfl rfl ka178
theorem kk179 : ∀ i y, ip_ins 179 i = some y → ∃ ok, ip_ck 179 (ip_cid 179) (ip_by 179) ok (ip_pc 179 (i + 1)) y = true := ip_ckA (m := 179) (l := ip_c179) rfl rfl rfl rfl ka179
theorem kk180 : ∀ i y, ip_ins 180 i = some y → ∃ ok, ip_ck 180 (ip_cid 180) (ip_by 180) ok (ip_pc 180 (i + 1)) y = true := ip_ckA (m := 180) (l := ip_c180) rfl rfl rfl rfl ka180
theorem kk181 : ∀ i y, ip_ins 181 i = some y → ∃ ok, ip_ck 181 (ip_cid 181) (ip_by 181) ok (ip_pc 181 (i + 1)) y = true := ip_ckA (m := 181) (l := ip_c181) rfl rfl rfl rfl ka181
theorem kk182 : ∀ i y, ip_ins 182 i = some y → ∃ ok, ip_ck 182 (ip_cid 182) (ip_by 182) ok (ip_pc 182 (i + 1)) y = true := ip_ckA (m := 182) (l := ip_c182) rfl rfl rfl rfl ka182
theorem kk183 : ∀ i y, ip_ins 183 i = some y → ∃ ok, ip_ck 183 (ip_cid 183) (ip_by 183) ok (ip_pc 183 (i + 1)) y = true := ip_ckA (m := 183) (l := ip_c183) rfl rfl rfl rfl ka183
theorem kk184 : ∀ i y, ip_ins 184 i = some y → ∃ ok, ip_ck 184 (ip_cid 184) (ip_by 184) ok (ip_pc 184 (i + 1)) y = true := ip_ckA (m := 184) (l := ip_c184) rfl rfl rfl rfl ka184
theorem kk185 : ∀ i y, ip_ins 185 i = some y → ∃ ok, ip_ck 185 (ip_cid 185) (ip_by 185) ok (ip_pc 185 (i + 1)) y = true := ip_ckA (m := 185) (l := ip_c185) rfl rfl rfl rfl ka185
theorem kk186 : ∀ i y, ip_ins 186 i = some y → ∃ ok, ip_ck 186 (ip_cid 186) (ip_by 186) ok (ip_pc 186 (i + 1)) y = true := ip_ckA (m := 186) (l := ip_c186) rfl rfl rfl rfl ka186
theorem kk187 : ∀ i y, ip_ins 187 i = some y → ∃ ok, ip_ck 187 (ip_cid 187) (ip_by 187) ok (ip_pc 187 (i + 1)) y = true := ip_ckA (m := 187) (l := ip_c187) rfl rfl rfl rfl ka187
theorem kk188 : ∀ i y, ip_ins 188 i = some y → ∃ ok, ip_ck 188 (ip_cid 188) (ip_by 188) ok (ip_pc 188 (i + 1)) y = true := ip_ckA (m := 188) (l := ip_c188) rfl rfl rfl rfl ka188
theorem kk189 : ∀ i y, ip_ins 189 i = some y → ∃ ok, ip_ck 189 (ip_cid 189) (ip_by 189) ok (ip_pc 189 (i + 1)) y = true := ip_ckA (m := 189) (l := ip_c189) rfl rfl rfl rfl ka189
theorem kk190 : ∀ i y, ip_ins 190 i = some y → ∃ ok, ip_ck 190 (ip_cid 190) (ip_by 190) ok (ip_pc 190 (i + 1)) y = true := ip_ckA (m := 190) (l := ip_c190) rfl rfl rfl rfl ka190
theorem kk191 : ∀ i y, ip_ins 191 i = some y → ∃ ok, ip_ck 191 (ip_cid 191) (ip_by 191) ok (ip_pc 191 (i + 1)) y = true := ip_ckA (m := 191) (l := ip_c191) rfl rfl rfl rfl ka191
theorem kk192 : ∀ i y, ip_ins 192 i = some y → ∃ ok, ip_ck 192 (ip_cid 192) (ip_by 192) ok (ip_pc 192 (i + 1)) y = true := ip_ckA (m := 192) (l := ip_c192) rfl rfl rfl rfl ka192
theorem kk193 : ∀ i y, ip_ins 193 i = some y → ∃ ok, ip_ck 193 (ip_cid 193) (ip_by 193) ok (ip_pc 193 (i + 1)) y = true := ip_ckA (m := 193) (l := ip_c193) rfl rfl rfl rfl ka193
theorem kk194 : ∀ i y, ip_ins 194 i = some y → ∃ ok, ip_ck 194 (ip_cid 194) (ip_by 194) ok (ip_pc 194 (i + 1)) y = true := ip_ckA (m := 194) (l := ip_c194) rfl rfl rfl rfl ka194
theorem kk195 : ∀ i y, ip_ins 195 i = some y → ∃ ok, ip_ck 195 (ip_cid 195) (ip_by 195) ok (ip_pc 195 (i + 1)) y = true := ip_ckA (m := 195) (l := ip_c195) rfl rfl rfl rfl ka195
theorem kk196 : ∀ i y, ip_ins 196 i = some y → ∃ ok, ip_ck 196 (ip_cid 196) (ip_by 196) ok (ip_pc 196 (i + 1)) y = true := ip_ckA (m := 196) (l := ip_c196) rfl rfl rfl rfl ka196
theorem kk197 : ∀ i y, ip_ins 197 i = some y → ∃ ok, ip_ck 197 (ip_cid 197) (ip_by 197) ok (ip_pc 197 (i + 1)) y = true := ip_ckA (m := 197) (l := ip_c197) rfl rfl rfl rfl ka197
theorem kk198 : ∀ i y, ip_ins 198 i = some y → ∃ ok, ip_ck 198 (ip_cid 198) (ip_by 198) ok (ip_pc 198 (i + 1)) y = true := ip_ckA (m := 198) (l := ip_c198) rfl rfl rfl rfl ka198
theorem kk199 : ∀ i y, ip_ins 199 i = some y → ∃ ok, ip_ck 199 (ip_cid 199) (ip_by 199) ok (ip_pc 199 (i + 1)) y = true := ip_ckA (m := 199) (l := ip_c199) rfl rfl rfl rfl ka199
theorem kk200 : ∀ i y, ip_ins 200 i = some y → ∃ ok, ip_ck 200 (ip_cid 200) (ip_by 200) ok (ip_pc 200 (i + 1)) y = true := ip_ckA (m := 200) (l := ip_c200) rfl rfl rfl rfl ka200
theorem kk201 : ∀ i y, ip_ins 201 i = some y → ∃ ok, ip_ck 201 (ip_cid 201) (ip_by 201) ok (ip_pc 201 (i + 1)) y = true := ip_ckA (m := 201) (l := ip_c201) rfl rfl rfl rfl ka201
theorem kk202 : ∀ i y, ip_ins 202 i = some y → ∃ ok, ip_ck 202 (ip_cid 202) (ip_by 202) ok (ip_pc 202 (i + 1)) y = true := ip_ckA (m := 202) (l := ip_c202) rfl rfl rfl rfl ka202
theorem kk203 : ∀ i y, ip_ins 203 i = some y → ∃ ok, ip_ck 203 (ip_cid 203) (ip_by 203) ok (ip_pc 203 (i + 1)) y = true := ip_ckA (m := 203) (l := ip_c203) rfl rfl rfl rfl ka203
theorem kk204 : ∀ i y, ip_ins 204 i = some y → ∃ ok, ip_ck 204 (ip_cid 204) (ip_by 204) ok (ip_pc 204 (i + 1)) y = true := ip_ckA (m := 204) (l := ip_c204) rfl rfl rfl rfl ka204
theorem kk205 : ∀ i y, ip_ins 205 i = some y → ∃ ok, ip_ck 205 (ip_cid 205) (ip_by 205) ok (ip_pc 205 (i + 1)) y = true := ip_ckA (m := 205) (l := ip_c205) rfl rfl rfl rfl ka205
theorem kk206 : ∀ i y, ip_ins 206 i = some y → ∃ ok, ip_ck 206 (ip_cid 206) (ip_by 206) ok (ip_pc 206 (i + 1)) y = true := ip_ckA (m := 206) (l := ip_c206) rfl rfl rfl rfl ka206
theorem kk207 : ∀ i y, ip_ins 207 i = some y → ∃ ok, ip_ck 207 (ip_cid 207) (ip_by 207) ok (ip_pc 207 (i + 1)) y = true := ip_ckA (m := 207) (l := ip_c207) rfl rfl rfl rfl ka207
theorem kk208 : ∀ i y, ip_ins 208 i = some y → ∃ ok, ip_ck 208 (ip_cid 208) (ip_by 208) ok (ip_pc 208 (i + 1)) y = true := ip_ckA (m := 208) (l := ip_c208) rfl rfl rfl rfl ka208
theorem kk209 : ∀ i y, ip_ins 209 i = some y → ∃ ok, ip_ck 209 (ip_cid 209) (ip_by 209) ok (ip_pc 209 (i + 1)) y = true := ip_ckA (m := 209) (l := ip_c209) rfl rfl rfl rfl ka209
theorem kk210 : ∀ i y, ip_ins 210 i = some y → ∃ ok, ip_ck 210 (ip_cid 210) (ip_by 210) ok (ip_pc 210 (i + 1)) y = true := ip_ckA (m := 210) (l := ip_c210) rfl rfl rfl rfl ka210
theorem kk211 : ∀ i y, ip_ins 211 i = some y → ∃ ok, ip_ck 211 (ip_cid 211) (ip_by 211) ok (ip_pc 211 (i + 1)) y = true := ip_ckA (m := 211) (l := ip_c211) rfl rfl rfl rfl ka211
theorem kk212 : ∀ i y, ip_ins 212 i = some y → ∃ ok, ip_ck 212 (ip_cid 212) (ip_by 212) ok (ip_pc 212 (i + 1)) y = true := ip_ckA (m := 212) (l := ip_c212) rfl rfl rfl rfl ka212
theorem kk213 : ∀ i y, ip_ins 213 i = some y → ∃ ok, ip_ck 213 (ip_cid 213) (ip_by 213) ok (ip_pc 213 (i + 1)) y = true := ip_ckA (m := 213) (l := ip_c213) rfl rfl rfl rfl ka213
theorem kk214 : ∀ i y, ip_ins 214 i = some y → ∃ ok, ip_ck 214 (ip_cid 214) (ip_by 214) ok (ip_pc 214 (i + 1)) y = true := ip_ckA (m := 214) (l := ip_c214) rfl rfl rfl rfl ka214
theorem kk215 : ∀ i y, ip_ins 215 i = some y → ∃ ok, ip_ck 215 (ip_cid 215) (ip_by 215) ok (ip_pc 215 (i + 1)) y = true := ip_ckA (m := 215) (l := ip_c215) rfl rfl rfl rfl ka215
theorem kk216 : ∀ i y, ip_ins 216 i = some y → ∃ ok, ip_ck 216 (ip_cid 216) (ip_by 216) ok (ip_pc 216 (i + 1)) y = true := ip_ckA (m := 216) (l := ip_c216) rfl rfl rfl rfl ka216
theorem kk217 : ∀ i y, ip_ins 217 i = some y → ∃ ok, ip_ck 217 (ip_cid 217) (ip_by 217) ok (ip_pc 217 (i + 1)) y = true := ip_ckA (m := 217) (l := ip_c217) rfl rfl rfl rfl ka217
theorem kk218 : ∀ i y, ip_ins 218 i = some y → ∃ ok, ip_ck 218 (ip_cid 218) (ip_by 218) ok (ip_pc 218 (i + 1)) y = true := ip_ckA (m := 218) (l := ip_c218) rfl rfl rfl rfl ka218
theorem kk219 : ∀ i y, ip_ins 219 i = some y → ∃ ok, ip_ck 219 (ip_cid 219) (ip_by 219) ok (ip_pc 219 (i + 1)) y = true := ip_ckA (m := 219) (l := ip_c219) rfl rfl rfl rfl ka219
theorem kk220 : ∀ i y, ip_ins 220 i = some y → ∃ ok, ip_ck 220 (ip_cid 220) (ip_by 220) ok (ip_pc 220 (i + 1)) y = true := ip_ckA (m := 220) (l := ip_c220) rfl rfl rfl rfl ka220
theorem kk221 : ∀ i y, ip_ins 221 i = some y → ∃ ok, ip_ck 221 (ip_cid 221) (ip_by 221) ok (ip_pc 221 (i + 1)) y = true := ip_ckA (m := 221) (l := ip_c221) rfl rfl rfl rfl ka221
theorem kk222 : ∀ i y, ip_ins 222 i = some y → ∃ ok, ip_ck 222 (ip_cid 222) (ip_by 222) ok (ip_pc 222 (i + 1)) y = true := ip_ckA (m := 222) (l := ip_c222) rfl rfl rfl rfl ka222
theorem kk223 : ∀ i y, ip_ins 223 i = some y → ∃ ok, ip_ck 223 (ip_cid 223) (ip_by 223) ok (ip_pc 223 (i + 1)) y = true := ip_ckA (m := 223) (l := ip_c223) rfl rfl rfl rfl ka223
theorem kk224 : ∀ i y, ip_ins 224 i = some y → ∃ ok, ip_ck 224 (ip_cid 224) (ip_by 224) ok (ip_pc 224 (i + 1)) y = true := ip_ckA (m := 224) (l := ip_c224) rfl rfl rfl rfl ka224
theorem kk225 : ∀ i y, ip_ins 225 i = some y → ∃ ok, ip_ck 225 (ip_cid 225) (ip_by 225) ok (ip_pc 225 (i + 1)) y = true := ip_ckA (m := 225) (l := ip_c225) rfl rfl rfl rfl ka225
theorem kk226 : ∀ i y, ip_ins 226 i = some y → ∃ ok, ip_ck 226 (ip_cid 226) (ip_by 226) ok (ip_pc 226 (i + 1)) y = true := ip_ckA (m := 226) (l := ip_c226) rfl rfl rfl rfl ka226
theorem kk227 : ∀ i y, ip_ins 227 i = some y → ∃ ok, ip_ck 227 (ip_cid 227) (ip_by 227) ok (ip_pc 227 (i + 1)) y = true := ip_ckA (m := 227) (l := ip_c227) rfl rfl rfl rfl ka227
theorem kk228 : ∀ i y, ip_ins 228 i = some y → ∃ ok, ip_ck 228 (ip_cid 228) (ip_by 228) ok (ip_pc 228 (i + 1)) y = true := ip_ckA (m := 228) (l := ip_c228) rfl rfl rfl rfl ka228
theorem kk229 : ∀ i y, ip_ins 229 i = some y → ∃ ok, ip_ck 229 (ip_cid 229) (ip_by 229) ok (ip_pc 229 (i + 1)) y = true := ip_ckA (m := 229) (l := ip_c229) rfl rfl rfl rfl ka229
theorem kk230 : ∀ i y, ip_ins 230 i = some y → ∃ ok, ip_ck 230 (ip_cid 230) (ip_by 230) ok (ip_pc 230 (i + 1)) y = true := ip_ckA (m := 230) (l := ip_c230) rfl rfl rfl rfl ka230
theorem kk231 : ∀ i y, ip_ins 231 i = some y → ∃ ok, ip_ck 231 (ip_cid 231) (ip_by 231) ok (ip_pc 231 (i + 1)) y = true := ip_ckA (m := 231) (l := ip_c231) rfl rfl rfl rfl ka231
theorem kk232 : ∀ i y, ip_ins 232 i = some y → ∃ ok, ip_ck 232 (ip_cid 232) (ip_by 232) ok (ip_pc 232 (i + 1)) y = true := ip_ckA (m := 232) (l := ip_c232) rfl rfl rfl rfl ka232
theorem kk233 : ∀ i y, ip_ins 233 i = some y → ∃ ok, ip_ck 233 (ip_cid 233) (ip_by 233) ok (ip_pc 233 (i + 1)) y = true := by
  intro i y hy
  have hlt : i < 925 := ip_ins_lt (m := 233) (l := ip_c233) rfl (by decide +kernel) hy
  by_cases h0 : i < 60
  · exact ip_ckB (m := 233) (l := ip_c233) rfl rfl rfl ka233_0 i y (by omega) (by omega) hy
  by_cases h60 : i < 120
  · exact ip_ckB (m := 233) (l := ip_c233) rfl rfl rfl ka233_60 i y (by omega) (by omega) hy
  by_cases h120 : i < 180
  · exact ip_ckB (m := 233) (l := ip_c233) rfl rfl rfl ka233_120 i y (by omega) (by omega) hy
  by_cases h180 : i < 240
  · exact ip_ckB (m := 233) (l := ip_c233) rfl rfl rfl ka233_180 i y (by omega) (by omega) hy
  by_cases h240 : i < 300
  · exact ip_ckB (m := 233) (l := ip_c233) rfl rfl rfl ka233_240 i y (by omega) (by omega) hy
  by_cases h300 : i < 360
  · exact ip_ckB (m := 233) (l := ip_c233) rfl rfl rfl ka233_300 i y (by omega) (by omega) hy
  by_cases h360 : i < 420
  · exact ip_ckB (m := 233) (l := ip_c233) rfl rfl rfl ka233_360 i y (by omega) (by omega) hy
  by_cases h420 : i < 480
  · exact ip_ckB (m := 233) (l := ip_c233) rfl rfl rfl ka233_420 i y (by omega) (by omega) hy
  by_cases h480 : i < 540
  · exact ip_ckB (m := 233) (l := ip_c233) rfl rfl rfl ka233_480 i y (by omega) (by omega) hy
  by_cases h540 : i < 600
  · exact ip_ckB (m := 233) (l := ip_c233) rfl rfl rfl ka233_540 i y (by omega) (by omega) hy
  by_cases h600 : i < 660
  · exact ip_ckB (m := 233) (l := ip_c233) rfl rfl rfl ka233_600 i y (by omega) (by omega) hy
  by_cases h660 : i < 720
  · exact ip_ckB (m := 233) (l := ip_c233) rfl rfl rfl ka233_660 i y (by omega) (by omega) hy
  by_cases h720 : i < 780
  · exact ip_ckB (m := 233) (l := ip_c233) rfl rfl rfl ka233_720 i y (by omega) (by omega) hy
  by_cases h780 : i < 840
  · exact ip_ckB (m := 233) (l := ip_c233) rfl rfl rfl ka233_780 i y (by omega) (by omega) hy
  by_cases h840 : i < 900
  · exact ip_ckB (m := 233) (l := ip_c233) rfl rfl rfl ka233_840 i y (by omega) (by omega) hy
  by_cases h900 : i < 925
  · exact ip_ckB (m := 233) (l := ip_c233) rfl rfl rfl ka233_900 i y (by omega) (by omega) hy
  omega
theorem ip_ck_all : ∀ m i y, m < 234 → ip_ins m i = some y → ∃ ok, ip_ck m (ip_cid m) (ip_by m) ok (ip_pc m (i + 1)) y = true := by
  intro m i y hm
  match m, hm with
  | 0, _ => exact kk0 i y
  | 1, _ => exact kk1 i y
  | 2, _ => exact kk2 i y
  | 3, _ => exact kk3 i y
  | 4, _ => exact kk4 i y
  | 5, _ => exact kk5 i y
  | 6, _ => exact kk6 i y
  | 7, _ => exact kk7 i y
  | 8, _ => exact kk8 i y
  | 9, _ => exact kk9 i y
  | 10, _ => exact kk10 i y
  | 11, _ => exact kk11 i y
  | 12, _ => exact kk12 i y
  | 13, _ => exact kk13 i y
  | 14, _ => exact kk14 i y
  | 15, _ => exact kk15 i y
  | 16, _ => exact kk16 i y
  | 17, _ => exact kk17 i y
  | 18, _ => exact kk18 i y
  | 19, _ => exact kk19 i y
  | 20, _ => exact kk20 i y
  | 21, _ => exact kk21 i y
  | 22, _ => exact kk22 i y
  | 23, _ => exact kk23 i y
  | 24, _ => exact kk24 i y
  | 25, _ => exact kk25 i y
  | 26, _ => exact kk26 i y
  | 27, _ => exact kk27 i y
  | 28, _ => exact kk28 i y
  | 29, _ => exact kk29 i y
  | 30, _ => exact kk30 i y
  | 31, _ => exact kk31 i y
  | 32, _ => exact kk32 i y
  | 33, _ => exact kk33 i y
  | 34, _ => exact kk34 i y
  | 35, _ => exact kk35 i y
  | 36, _ => exact kk36 i y
  | 37, _ => exact kk37 i y
  | 38, _ => exact kk38 i y
  | 39, _ => exact kk39 i y
  | 40, _ => exact kk40 i y
  | 41, _ => exact kk41 i y
  | 42, _ => exact kk42 i y
  | 43, _ => exact kk43 i y
  | 44, _ => exact kk44 i y
  | 45, _ => exact kk45 i y
  | 46, _ => exact kk46 i y
  | 47, _ => exact kk47 i y
  | 48, _ => exact kk48 i y
  | 49, _ => exact kk49 i y
  | 50, _ => exact kk50 i y
  | 51, _ => exact kk51 i y
  | 52, _ => exact kk52 i y
  | 53, _ => exact kk53 i y
  | 54, _ => exact kk54 i y
  | 55, _ => exact kk55 i y
  | 56, _ => exact kk56 i y
  | 57, _ => exact kk57 i y
  | 58, _ => exact kk58 i y
  | 59, _ => exact kk59 i y
  | 60, _ => exact kk60 i y
  | 61, _ => exact kk61 i y
  | 62, _ => exact kk62 i y
  | 63, _ => exact kk63 i y
  | 64, _ => exact kk64 i y
  | 65, _ => exact kk65 i y
  | 66, _ => exact kk66 i y
  | 67, _ => exact kk67 i y
  | 68, _ => exact kk68 i y
  | 69, _ => exact kk69 i y
  | 70, _ => exact kk70 i y
  | 71, _ => exact kk71 i y
  | 72, _ => exact kk72 i y
  | 73, _ => exact kk73 i y
  | 74, _ => exact kk74 i y
  | 75, _ => exact kk75 i y
  | 76, _ => exact kk76 i y
  | 77, _ => exact kk77 i y
  | 78, _ => exact kk78 i y
  | 79, _ => exact kk79 i y
  | 80, _ => exact kk80 i y
  | 81, _ => exact kk81 i y
  | 82, _ => exact kk82 i y
  | 83, _ => exact kk83 i y
  | 84, _ => exact kk84 i y
  | 85, _ => exact kk85 i y
  | 86, _ => exact kk86 i y
  | 87, _ => exact kk87 i y
  | 88, _ => exact kk88 i y
  | 89, _ => exact kk89 i y
  | 90, _ => exact kk90 i y
  | 91, _ => exact kk91 i y
  | 92, _ => exact kk92 i y
  | 93, _ => exact kk93 i y
  | 94, _ => exact kk94 i y
  | 95, _ => exact kk95 i y
  | 96, _ => exact kk96 i y
  | 97, _ => exact kk97 i y
  | 98, _ => exact kk98 i y
  | 99, _ => exact kk99 i y
  | 100, _ => exact kk100 i y
  | 101, _ => exact kk101 i y
  | 102, _ => exact kk102 i y
  | 103, _ => exact kk103 i y
  | 104, _ => exact kk104 i y
  | 105, _ => exact kk105 i y
  | 106, _ => exact kk106 i y
  | 107, _ => exact kk107 i y
  | 108, _ => exact kk108 i y
  | 109, _ => exact kk109 i y
  | 110, _ => exact kk110 i y
  | 111, _ => exact kk111 i y
  | 112, _ => exact kk112 i y
  | 113, _ => exact kk113 i y
  | 114, _ => exact kk114 i y
  | 115, _ => exact kk115 i y
  | 116, _ => exact kk116 i y
  | 117, _ => exact kk117 i y
  | 118, _ => exact kk118 i y
  | 119, _ => exact kk119 i y
  | 120, _ => exact kk120 i y
  | 121, _ => exact kk121 i y
  | 122, _ => exact kk122 i y
  | 123, _ => exact kk123 i y
  | 124, _ => exact kk124 i y
  | 125, _ => exact kk125 i y
  | 126, _ => exact kk126 i y
  | 127, _ => exact kk127 i y
  | 128, _ => exact kk128 i y
  | 129, _ => exact kk129 i y
  | 130, _ => exact kk130 i y
  | 131, _ => exact kk131 i y
  | 132, _ => exact kk132 i y
  | 133, _ => exact kk133 i y
  | 134, _ => exact kk134 i y
  | 135, _ => exact kk135 i y
  | 136, _ => exact kk136 i y
  | 137, _ => exact kk137 i y
  | 138, _ => exact kk138 i y
  | 139, _ => exact kk139 i y
  | 140, _ => exact kk140 i y
  | 141, _ => exact kk141 i y
  | 142, _ => exact kk142 i y
  | 143, _ => exact kk143 i y
  | 144, _ => exact kk144 i y
  | 145, _ => exact kk145 i y
  | 146, _ => exact kk146 i y
  | 147, _ => exact kk147 i y
  | 148, _ => exact kk148 i y
  | 149, _ => exact kk149 i y
  | 150, _ => exact kk150 i y
  | 151, _ => exact kk151 i y
  | 152, _ => exact kk152 i y
  | 153, _ => exact kk153 i y
  | 154, _ => exact kk154 i y
  | 155, _ => exact kk155 i y
  | 156, _ => exact kk156 i y
  | 157, _ => exact kk157 i y
  | 158, _ => exact kk158 i y
  | 159, _ => exact kk159 i y
  | 160, _ => exact kk160 i y
  | 161, _ => exact kk161 i y
  | 162, _ => exact kk162 i y
  | 163, _ => exact kk163 i y
  | 164, _ => exact kk164 i y
  | 165, _ => exact kk165 i y
  | 166, _ => exact kk166 i y
  | 167, _ => exact kk167 i y
  | 168, _ => exact kk168 i y
  | 169, _ => exact kk169 i y
  | 170, _ => exact kk170 i y
  | 171, _ => exact kk171 i y
  | 172, _ => exact kk172 i y
  | 173, _ => exact kk173 i y
  | 174, _ => exact kk174 i y
  | 175, _ => exact kk175 i y
  | 176, _ => exact kk176 i y
  | 177, _ => exact kk177 i y
  | 178, _ => exact kk178 i y
  | 179, _ => exact kk179 i y
  | 180, _ => exact kk180 i y
  | 181, _ => exact kk181 i y
  | 182, _ => exact kk182 i y
  | 183, _ => exact kk183 i y
  | 184, _ => exact kk184 i y
  | 185, _ => exact kk185 i y
  | 186, _ => exact kk186 i y
  | 187, _ => exact kk187 i y
  | 188, _ => exact kk188 i y
  | 189, _ => exact kk189 i y
  | 190, _ => exact kk190 i y
  | 191, _ => exact kk191 i y
  | 192, _ => exact kk192 i y
  | 193, _ => exact kk193 i y
  | 194, _ => exact kk194 i y
  | 195, _ => exact kk195 i y
  | 196, _ => exact kk196 i y
  | 197, _ => exact kk197 i y
  | 198, _ => exact kk198 i y
  | 199, _ => exact kk199 i y
  | 200, _ => exact kk200 i y
  | 201, _ => exact kk201 i y
  | 202, _ => exact kk202 i y
  | 203, _ => exact kk203 i y
  | 204, _ => exact kk204 i y
  | 205, _ => exact kk205 i y
  | 206, _ => exact kk206 i y
  | 207, _ => exact kk207 i y
  | 208, _ => exact kk208 i y
  | 209, _ => exact kk209 i y
  | 210, _ => exact kk210 i y
  | 211, _ => exact kk211 i y
  | 212, _ => exact kk212 i y
  | 213, _ => exact kk213 i y
  | 214, _ => exact kk214 i y
  | 215, _ => exact kk215 i y
  | 216, _ => exact kk216 i y
  | 217, _ => exact kk217 i y
  | 218, _ => exact kk218 i y
  | 219, _ => exact kk219 i y
  | 220, _ => exact kk220 i y
  | 221, _ => exact kk221 i y
  | 222, _ => exact kk222 i y
  | 223, _ => exact kk223 i y
  | 224, _ => exact kk224 i y
  | 225, _ => exact kk225 i y
  | 226, _ => exact kk226 i y
  | 227, _ => exact kk227 i y
  | 228, _ => exact kk228 i y
  | 229, _ => exact kk229 i y
  | 230, _ => exact kk230 i y
  | 231, _ => exact kk231 i y
  | 232, _ => exact kk232 i y
  | 233, _ => exact kk233 i y
  | n + 234, h => omega
theorem ip_pc0_all : ∀ m, m < 234 → ip_pc m 0 = 0 := by decide +kernel
def ip_pr0 : List Jvm.Cond := [Jvm.Cond.arrayOf (Jvm.Term.arg (0 : Nat)) Jvm.ClassFile.FieldType.int, Jvm.Cond.le (Jvm.Term.length (Jvm.Term.arg (0 : Nat))) (Jvm.Term.int (3072 : Int32)), Jvm.Cond.eq (Jvm.Term.static "java/lang/String" "COMPACT_STRINGS" "Z") (Jvm.Term.int (1 : Int32)), Jvm.Cond.isRef (Jvm.Term.static "jdk/internal/util/Preconditions" "SIOOBE_FORMATTER" "Ljava/util/function/BiFunction;"), Jvm.Cond.eq (Jvm.Term.static "java/lang/StringUTF16" "$assertionsDisabled" "Z") (Jvm.Term.int (1 : Int32)), Jvm.Cond.eq (Jvm.Term.static "java/lang/StringUTF16" "HI_BYTE_SHIFT" "I") (Jvm.Term.int (0 : Int32)), Jvm.Cond.eq (Jvm.Term.static "java/lang/StringUTF16" "LO_BYTE_SHIFT" "I") (Jvm.Term.int (8 : Int32)), Jvm.Cond.not (Jvm.Cond.castable "TandemKeepsAPlace" "TandemKeepsAPlace$Text"), Jvm.Cond.not (Jvm.Cond.castable "TandemKeepsAPlace$World" "TandemKeepsAPlace$Text"), Jvm.Cond.not (Jvm.Cond.castable "TandemKeepsAPlace$Texts" "TandemKeepsAPlace$Text"), Jvm.Cond.not (Jvm.Cond.castable "TandemKeepsAPlace$Tape" "TandemKeepsAPlace$Text"), Jvm.Cond.not (Jvm.Cond.castable "TandemKeepsAPlace$Reader" "TandemKeepsAPlace$Text"), Jvm.Cond.not (Jvm.Cond.castable "TandemKeepsAPlace$Tandem" "TandemKeepsAPlace$Text"), Jvm.Cond.not (Jvm.Cond.castable "TandemKeepsAPlace$Sheet" "TandemKeepsAPlace$Text"), Jvm.Cond.not (Jvm.Cond.castable "TandemKeepsAPlaceModel" "TandemKeepsAPlace$Text"), Jvm.Cond.not (Jvm.Cond.castable "java/lang/String" "TandemKeepsAPlace$Text"), Jvm.Cond.not (Jvm.Cond.castable "TandemKeepsAPlace" "TandemKeepsAPlace$Sheet"), Jvm.Cond.not (Jvm.Cond.castable "TandemKeepsAPlace$World" "TandemKeepsAPlace$Sheet"), Jvm.Cond.not (Jvm.Cond.castable "TandemKeepsAPlace$Texts" "TandemKeepsAPlace$Sheet"), Jvm.Cond.not (Jvm.Cond.castable "TandemKeepsAPlace$Tape" "TandemKeepsAPlace$Sheet"), Jvm.Cond.not (Jvm.Cond.castable "TandemKeepsAPlace$Reader" "TandemKeepsAPlace$Sheet"), Jvm.Cond.not (Jvm.Cond.castable "TandemKeepsAPlace$Text" "TandemKeepsAPlace$Sheet"), Jvm.Cond.not (Jvm.Cond.castable "TandemKeepsAPlace$Tandem" "TandemKeepsAPlace$Sheet"), Jvm.Cond.not (Jvm.Cond.castable "TandemKeepsAPlaceModel" "TandemKeepsAPlace$Sheet"), Jvm.Cond.not (Jvm.Cond.castable "java/lang/String" "TandemKeepsAPlace$Sheet")]
