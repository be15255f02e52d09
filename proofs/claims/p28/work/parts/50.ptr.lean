/-! where every reference stands -/
def x_L1 : List (Nat × Int × Nat) := [(0, 0, 1), (0, 1, 9), (0, 3, 17), (0, 4, 44), (0, 5, 49), (0, 6, 50), (0, 7, 51), (0, 8, 52), (0, 9, 53), (1, 0, 2), (1, 1, 3), (1, 2, 4), (1, 3, 5), (1, 4, 6), (1, 5, 7), (1, 6, 8), (9, 0, 10), (9, 1, 11), (9, 2, 12), (9, 3, 13), (9, 4, 14), (9, 5, 15), (9, 6, 16), (17, 0, 18), (17, 1, 19), (17, 2, 24), (17, 3, 25), (24, 0, 19), (19, 0, 20), (19, 1, 21), (19, 2, 22), (19, 3, 23), (18, 0, 26), (26, 0, 27), (26, 1, 28), (18, 1, 29), (29, 0, 30), (29, 1, 31), (18, 2, 32), (32, 0, 33), (32, 1, 34), (18, 3, 35), (35, 0, 36), (35, 1, 37), (18, 4, 38), (38, 0, 39), (38, 1, 40), (18, 5, 41), (41, 0, 42), (41, 1, 43), (44, 0, 1), (44, 1, 17), (44, 2, 45), (44, 3, 46), (44, 4, 47), (44, 5, 48), (49, 0, 54), (54, 0, 55), (49, 1, 56), (56, 0, 57), (49, 2, 58), (58, 0, 59), (49, 3, 60), (60, 0, 61)]
def x_L2 : List (Nat × Int × Nat) := [(62, 1, 63), (62, 2, 64), (62, 5, 65), (62, 8, 66), (62, 9, 67), (62, 10, 68), (62, 12, 69), (62, 28, 70), (62, 32, 71), (62, 35, 72), (62, 36, 73), (62, 37, 74), (62, 41, 75), (62, 42, 76), (62, 43, 77), (62, 44, 78)]
def x_RX (R : ip_R) : Prop := ∀ e : Nat × Int × Nat, e ∈ x_L1 → R e.1 e.2.1 = some e.2.2
def x_RM (R : ip_R) : Prop := ∀ e : Nat × Int × Nat, e ∈ x_L2 → R e.1 e.2.1 = some e.2.2
section PTR
variable {R : ip_R}
theorem rx0_0 (h : x_RX R) : R 0 0 = some 1 := h (0, 0, 1) (List.mem_of_getElem? (i := 0) rfl)
theorem rx0_1 (h : x_RX R) : R 0 1 = some 9 := h (0, 1, 9) (List.mem_of_getElem? (i := 1) rfl)
theorem rx0_3 (h : x_RX R) : R 0 3 = some 17 := h (0, 3, 17) (List.mem_of_getElem? (i := 2) rfl)
theorem rx0_4 (h : x_RX R) : R 0 4 = some 44 := h (0, 4, 44) (List.mem_of_getElem? (i := 3) rfl)
theorem rx0_5 (h : x_RX R) : R 0 5 = some 49 := h (0, 5, 49) (List.mem_of_getElem? (i := 4) rfl)
theorem rx0_6 (h : x_RX R) : R 0 6 = some 50 := h (0, 6, 50) (List.mem_of_getElem? (i := 5) rfl)
theorem rx0_7 (h : x_RX R) : R 0 7 = some 51 := h (0, 7, 51) (List.mem_of_getElem? (i := 6) rfl)
theorem rx0_8 (h : x_RX R) : R 0 8 = some 52 := h (0, 8, 52) (List.mem_of_getElem? (i := 7) rfl)
theorem rx0_9 (h : x_RX R) : R 0 9 = some 53 := h (0, 9, 53) (List.mem_of_getElem? (i := 8) rfl)
theorem rx1_0 (h : x_RX R) : R 1 0 = some 2 := h (1, 0, 2) (List.mem_of_getElem? (i := 9) rfl)
theorem rx1_1 (h : x_RX R) : R 1 1 = some 3 := h (1, 1, 3) (List.mem_of_getElem? (i := 10) rfl)
theorem rx1_2 (h : x_RX R) : R 1 2 = some 4 := h (1, 2, 4) (List.mem_of_getElem? (i := 11) rfl)
theorem rx1_3 (h : x_RX R) : R 1 3 = some 5 := h (1, 3, 5) (List.mem_of_getElem? (i := 12) rfl)
theorem rx1_4 (h : x_RX R) : R 1 4 = some 6 := h (1, 4, 6) (List.mem_of_getElem? (i := 13) rfl)
theorem rx1_5 (h : x_RX R) : R 1 5 = some 7 := h (1, 5, 7) (List.mem_of_getElem? (i := 14) rfl)
theorem rx1_6 (h : x_RX R) : R 1 6 = some 8 := h (1, 6, 8) (List.mem_of_getElem? (i := 15) rfl)
theorem rx9_0 (h : x_RX R) : R 9 0 = some 10 := h (9, 0, 10) (List.mem_of_getElem? (i := 16) rfl)
theorem rx9_1 (h : x_RX R) : R 9 1 = some 11 := h (9, 1, 11) (List.mem_of_getElem? (i := 17) rfl)
theorem rx9_2 (h : x_RX R) : R 9 2 = some 12 := h (9, 2, 12) (List.mem_of_getElem? (i := 18) rfl)
theorem rx9_3 (h : x_RX R) : R 9 3 = some 13 := h (9, 3, 13) (List.mem_of_getElem? (i := 19) rfl)
theorem rx9_4 (h : x_RX R) : R 9 4 = some 14 := h (9, 4, 14) (List.mem_of_getElem? (i := 20) rfl)
theorem rx9_5 (h : x_RX R) : R 9 5 = some 15 := h (9, 5, 15) (List.mem_of_getElem? (i := 21) rfl)
theorem rx9_6 (h : x_RX R) : R 9 6 = some 16 := h (9, 6, 16) (List.mem_of_getElem? (i := 22) rfl)
theorem rx17_0 (h : x_RX R) : R 17 0 = some 18 := h (17, 0, 18) (List.mem_of_getElem? (i := 23) rfl)
theorem rx17_1 (h : x_RX R) : R 17 1 = some 19 := h (17, 1, 19) (List.mem_of_getElem? (i := 24) rfl)
theorem rx17_2 (h : x_RX R) : R 17 2 = some 24 := h (17, 2, 24) (List.mem_of_getElem? (i := 25) rfl)
theorem rx17_3 (h : x_RX R) : R 17 3 = some 25 := h (17, 3, 25) (List.mem_of_getElem? (i := 26) rfl)
theorem rx24_0 (h : x_RX R) : R 24 0 = some 19 := h (24, 0, 19) (List.mem_of_getElem? (i := 27) rfl)
theorem rx19_0 (h : x_RX R) : R 19 0 = some 20 := h (19, 0, 20) (List.mem_of_getElem? (i := 28) rfl)
theorem rx19_1 (h : x_RX R) : R 19 1 = some 21 := h (19, 1, 21) (List.mem_of_getElem? (i := 29) rfl)
theorem rx19_2 (h : x_RX R) : R 19 2 = some 22 := h (19, 2, 22) (List.mem_of_getElem? (i := 30) rfl)
theorem rx19_3 (h : x_RX R) : R 19 3 = some 23 := h (19, 3, 23) (List.mem_of_getElem? (i := 31) rfl)
theorem rx18_0 (h : x_RX R) : R 18 0 = some 26 := h (18, 0, 26) (List.mem_of_getElem? (i := 32) rfl)
theorem rx26_0 (h : x_RX R) : R 26 0 = some 27 := h (26, 0, 27) (List.mem_of_getElem? (i := 33) rfl)
theorem rx26_1 (h : x_RX R) : R 26 1 = some 28 := h (26, 1, 28) (List.mem_of_getElem? (i := 34) rfl)
theorem rx18_1 (h : x_RX R) : R 18 1 = some 29 := h (18, 1, 29) (List.mem_of_getElem? (i := 35) rfl)
theorem rx29_0 (h : x_RX R) : R 29 0 = some 30 := h (29, 0, 30) (List.mem_of_getElem? (i := 36) rfl)
theorem rx29_1 (h : x_RX R) : R 29 1 = some 31 := h (29, 1, 31) (List.mem_of_getElem? (i := 37) rfl)
theorem rx18_2 (h : x_RX R) : R 18 2 = some 32 := h (18, 2, 32) (List.mem_of_getElem? (i := 38) rfl)
theorem rx32_0 (h : x_RX R) : R 32 0 = some 33 := h (32, 0, 33) (List.mem_of_getElem? (i := 39) rfl)
theorem rx32_1 (h : x_RX R) : R 32 1 = some 34 := h (32, 1, 34) (List.mem_of_getElem? (i := 40) rfl)
theorem rx18_3 (h : x_RX R) : R 18 3 = some 35 := h (18, 3, 35) (List.mem_of_getElem? (i := 41) rfl)
theorem rx35_0 (h : x_RX R) : R 35 0 = some 36 := h (35, 0, 36) (List.mem_of_getElem? (i := 42) rfl)
theorem rx35_1 (h : x_RX R) : R 35 1 = some 37 := h (35, 1, 37) (List.mem_of_getElem? (i := 43) rfl)
theorem rx18_4 (h : x_RX R) : R 18 4 = some 38 := h (18, 4, 38) (List.mem_of_getElem? (i := 44) rfl)
theorem rx38_0 (h : x_RX R) : R 38 0 = some 39 := h (38, 0, 39) (List.mem_of_getElem? (i := 45) rfl)
theorem rx38_1 (h : x_RX R) : R 38 1 = some 40 := h (38, 1, 40) (List.mem_of_getElem? (i := 46) rfl)
theorem rx18_5 (h : x_RX R) : R 18 5 = some 41 := h (18, 5, 41) (List.mem_of_getElem? (i := 47) rfl)
theorem rx41_0 (h : x_RX R) : R 41 0 = some 42 := h (41, 0, 42) (List.mem_of_getElem? (i := 48) rfl)
theorem rx41_1 (h : x_RX R) : R 41 1 = some 43 := h (41, 1, 43) (List.mem_of_getElem? (i := 49) rfl)
theorem rx44_0 (h : x_RX R) : R 44 0 = some 1 := h (44, 0, 1) (List.mem_of_getElem? (i := 50) rfl)
theorem rx44_1 (h : x_RX R) : R 44 1 = some 17 := h (44, 1, 17) (List.mem_of_getElem? (i := 51) rfl)
theorem rx44_2 (h : x_RX R) : R 44 2 = some 45 := h (44, 2, 45) (List.mem_of_getElem? (i := 52) rfl)
theorem rx44_3 (h : x_RX R) : R 44 3 = some 46 := h (44, 3, 46) (List.mem_of_getElem? (i := 53) rfl)
theorem rx44_4 (h : x_RX R) : R 44 4 = some 47 := h (44, 4, 47) (List.mem_of_getElem? (i := 54) rfl)
theorem rx44_5 (h : x_RX R) : R 44 5 = some 48 := h (44, 5, 48) (List.mem_of_getElem? (i := 55) rfl)
theorem rx49_0 (h : x_RX R) : R 49 0 = some 54 := h (49, 0, 54) (List.mem_of_getElem? (i := 56) rfl)
theorem rx54_0 (h : x_RX R) : R 54 0 = some 55 := h (54, 0, 55) (List.mem_of_getElem? (i := 57) rfl)
theorem rx49_1 (h : x_RX R) : R 49 1 = some 56 := h (49, 1, 56) (List.mem_of_getElem? (i := 58) rfl)
theorem rx56_0 (h : x_RX R) : R 56 0 = some 57 := h (56, 0, 57) (List.mem_of_getElem? (i := 59) rfl)
theorem rx49_2 (h : x_RX R) : R 49 2 = some 58 := h (49, 2, 58) (List.mem_of_getElem? (i := 60) rfl)
theorem rx58_0 (h : x_RX R) : R 58 0 = some 59 := h (58, 0, 59) (List.mem_of_getElem? (i := 61) rfl)
theorem rx49_3 (h : x_RX R) : R 49 3 = some 60 := h (49, 3, 60) (List.mem_of_getElem? (i := 62) rfl)
theorem rx60_0 (h : x_RX R) : R 60 0 = some 61 := h (60, 0, 61) (List.mem_of_getElem? (i := 63) rfl)
theorem rm1 (h : x_RM R) : R 62 1 = some 63 := h (62, 1, 63) (List.mem_of_getElem? (i := 0) rfl)
theorem rm2 (h : x_RM R) : R 62 2 = some 64 := h (62, 2, 64) (List.mem_of_getElem? (i := 1) rfl)
theorem rm5 (h : x_RM R) : R 62 5 = some 65 := h (62, 5, 65) (List.mem_of_getElem? (i := 2) rfl)
theorem rm8 (h : x_RM R) : R 62 8 = some 66 := h (62, 8, 66) (List.mem_of_getElem? (i := 3) rfl)
theorem rm9 (h : x_RM R) : R 62 9 = some 67 := h (62, 9, 67) (List.mem_of_getElem? (i := 4) rfl)
theorem rm10 (h : x_RM R) : R 62 10 = some 68 := h (62, 10, 68) (List.mem_of_getElem? (i := 5) rfl)
theorem rm12 (h : x_RM R) : R 62 12 = some 69 := h (62, 12, 69) (List.mem_of_getElem? (i := 6) rfl)
theorem rm28 (h : x_RM R) : R 62 28 = some 70 := h (62, 28, 70) (List.mem_of_getElem? (i := 7) rfl)
theorem rm32 (h : x_RM R) : R 62 32 = some 71 := h (62, 32, 71) (List.mem_of_getElem? (i := 8) rfl)
theorem rm35 (h : x_RM R) : R 62 35 = some 72 := h (62, 35, 72) (List.mem_of_getElem? (i := 9) rfl)
theorem rm36 (h : x_RM R) : R 62 36 = some 73 := h (62, 36, 73) (List.mem_of_getElem? (i := 10) rfl)
theorem rm37 (h : x_RM R) : R 62 37 = some 74 := h (62, 37, 74) (List.mem_of_getElem? (i := 11) rfl)
theorem rm41 (h : x_RM R) : R 62 41 = some 75 := h (62, 41, 75) (List.mem_of_getElem? (i := 12) rfl)
theorem rm42 (h : x_RM R) : R 62 42 = some 76 := h (62, 42, 76) (List.mem_of_getElem? (i := 13) rfl)
theorem rm43 (h : x_RM R) : R 62 43 = some 77 := h (62, 43, 77) (List.mem_of_getElem? (i := 14) rfl)
theorem rm44 (h : x_RM R) : R 62 44 = some 78 := h (62, 44, 78) (List.mem_of_getElem? (i := 15) rfl)
theorem yfx0_0 (h : x_RX R) {K : Nat → Prop} : ip_rfk (R 0 0) K = K 1 := by rw [rx0_0 h]; rfl
theorem yfx0_1 (h : x_RX R) {K : Nat → Prop} : ip_rfk (R 0 1) K = K 9 := by rw [rx0_1 h]; rfl
theorem yfx0_3 (h : x_RX R) {K : Nat → Prop} : ip_rfk (R 0 3) K = K 17 := by rw [rx0_3 h]; rfl
theorem yfx0_4 (h : x_RX R) {K : Nat → Prop} : ip_rfk (R 0 4) K = K 44 := by rw [rx0_4 h]; rfl
theorem yfx0_5 (h : x_RX R) {K : Nat → Prop} : ip_rfk (R 0 5) K = K 49 := by rw [rx0_5 h]; rfl
theorem yfx0_6 (h : x_RX R) {K : Nat → Prop} : ip_rfk (R 0 6) K = K 50 := by rw [rx0_6 h]; rfl
theorem yfx0_7 (h : x_RX R) {K : Nat → Prop} : ip_rfk (R 0 7) K = K 51 := by rw [rx0_7 h]; rfl
theorem yfx0_8 (h : x_RX R) {K : Nat → Prop} : ip_rfk (R 0 8) K = K 52 := by rw [rx0_8 h]; rfl
theorem yfx0_9 (h : x_RX R) {K : Nat → Prop} : ip_rfk (R 0 9) K = K 53 := by rw [rx0_9 h]; rfl
theorem yfx1_0 (h : x_RX R) {K : Nat → Prop} : ip_rfk (R 1 0) K = K 2 := by rw [rx1_0 h]; rfl
theorem yfx1_1 (h : x_RX R) {K : Nat → Prop} : ip_rfk (R 1 1) K = K 3 := by rw [rx1_1 h]; rfl
theorem yfx1_2 (h : x_RX R) {K : Nat → Prop} : ip_rfk (R 1 2) K = K 4 := by rw [rx1_2 h]; rfl
theorem yfx1_3 (h : x_RX R) {K : Nat → Prop} : ip_rfk (R 1 3) K = K 5 := by rw [rx1_3 h]; rfl
theorem yfx1_4 (h : x_RX R) {K : Nat → Prop} : ip_rfk (R 1 4) K = K 6 := by rw [rx1_4 h]; rfl
theorem yfx1_5 (h : x_RX R) {K : Nat → Prop} : ip_rfk (R 1 5) K = K 7 := by rw [rx1_5 h]; rfl
theorem yfx1_6 (h : x_RX R) {K : Nat → Prop} : ip_rfk (R 1 6) K = K 8 := by rw [rx1_6 h]; rfl
theorem yfx9_0 (h : x_RX R) {K : Nat → Prop} : ip_rfk (R 9 0) K = K 10 := by rw [rx9_0 h]; rfl
theorem yfx9_1 (h : x_RX R) {K : Nat → Prop} : ip_rfk (R 9 1) K = K 11 := by rw [rx9_1 h]; rfl
theorem yfx9_2 (h : x_RX R) {K : Nat → Prop} : ip_rfk (R 9 2) K = K 12 := by rw [rx9_2 h]; rfl
theorem yfx9_3 (h : x_RX R) {K : Nat → Prop} : ip_rfk (R 9 3) K = K 13 := by rw [rx9_3 h]; rfl
theorem yfx9_4 (h : x_RX R) {K : Nat → Prop} : ip_rfk (R 9 4) K = K 14 := by rw [rx9_4 h]; rfl
theorem yfx9_5 (h : x_RX R) {K : Nat → Prop} : ip_rfk (R 9 5) K = K 15 := by rw [rx9_5 h]; rfl
theorem yfx9_6 (h : x_RX R) {K : Nat → Prop} : ip_rfk (R 9 6) K = K 16 := by rw [rx9_6 h]; rfl
theorem yfx17_0 (h : x_RX R) {K : Nat → Prop} : ip_rfk (R 17 0) K = K 18 := by rw [rx17_0 h]; rfl
theorem yfx17_1 (h : x_RX R) {K : Nat → Prop} : ip_rfk (R 17 1) K = K 19 := by rw [rx17_1 h]; rfl
theorem yfx17_2 (h : x_RX R) {K : Nat → Prop} : ip_rfk (R 17 2) K = K 24 := by rw [rx17_2 h]; rfl
theorem yfx17_3 (h : x_RX R) {K : Nat → Prop} : ip_rfk (R 17 3) K = K 25 := by rw [rx17_3 h]; rfl
theorem yfx24_0 (h : x_RX R) {K : Nat → Prop} : ip_rfk (R 24 0) K = K 19 := by rw [rx24_0 h]; rfl
theorem yfx19_0 (h : x_RX R) {K : Nat → Prop} : ip_rfk (R 19 0) K = K 20 := by rw [rx19_0 h]; rfl
theorem yfx19_1 (h : x_RX R) {K : Nat → Prop} : ip_rfk (R 19 1) K = K 21 := by rw [rx19_1 h]; rfl
theorem yfx19_2 (h : x_RX R) {K : Nat → Prop} : ip_rfk (R 19 2) K = K 22 := by rw [rx19_2 h]; rfl
theorem yfx19_3 (h : x_RX R) {K : Nat → Prop} : ip_rfk (R 19 3) K = K 23 := by rw [rx19_3 h]; rfl
theorem yfx18_0 (h : x_RX R) {K : Nat → Prop} : ip_rfk (R 18 0) K = K 26 := by rw [rx18_0 h]; rfl
theorem yfx26_0 (h : x_RX R) {K : Nat → Prop} : ip_rfk (R 26 0) K = K 27 := by rw [rx26_0 h]; rfl
theorem yfx26_1 (h : x_RX R) {K : Nat → Prop} : ip_rfk (R 26 1) K = K 28 := by rw [rx26_1 h]; rfl
theorem yfx18_1 (h : x_RX R) {K : Nat → Prop} : ip_rfk (R 18 1) K = K 29 := by rw [rx18_1 h]; rfl
theorem yfx29_0 (h : x_RX R) {K : Nat → Prop} : ip_rfk (R 29 0) K = K 30 := by rw [rx29_0 h]; rfl
theorem yfx29_1 (h : x_RX R) {K : Nat → Prop} : ip_rfk (R 29 1) K = K 31 := by rw [rx29_1 h]; rfl
theorem yfx18_2 (h : x_RX R) {K : Nat → Prop} : ip_rfk (R 18 2) K = K 32 := by rw [rx18_2 h]; rfl
theorem yfx32_0 (h : x_RX R) {K : Nat → Prop} : ip_rfk (R 32 0) K = K 33 := by rw [rx32_0 h]; rfl
theorem yfx32_1 (h : x_RX R) {K : Nat → Prop} : ip_rfk (R 32 1) K = K 34 := by rw [rx32_1 h]; rfl
theorem yfx18_3 (h : x_RX R) {K : Nat → Prop} : ip_rfk (R 18 3) K = K 35 := by rw [rx18_3 h]; rfl
theorem yfx35_0 (h : x_RX R) {K : Nat → Prop} : ip_rfk (R 35 0) K = K 36 := by rw [rx35_0 h]; rfl
theorem yfx35_1 (h : x_RX R) {K : Nat → Prop} : ip_rfk (R 35 1) K = K 37 := by rw [rx35_1 h]; rfl
theorem yfx18_4 (h : x_RX R) {K : Nat → Prop} : ip_rfk (R 18 4) K = K 38 := by rw [rx18_4 h]; rfl
theorem yfx38_0 (h : x_RX R) {K : Nat → Prop} : ip_rfk (R 38 0) K = K 39 := by rw [rx38_0 h]; rfl
theorem yfx38_1 (h : x_RX R) {K : Nat → Prop} : ip_rfk (R 38 1) K = K 40 := by rw [rx38_1 h]; rfl
theorem yfx18_5 (h : x_RX R) {K : Nat → Prop} : ip_rfk (R 18 5) K = K 41 := by rw [rx18_5 h]; rfl
theorem yfx41_0 (h : x_RX R) {K : Nat → Prop} : ip_rfk (R 41 0) K = K 42 := by rw [rx41_0 h]; rfl
theorem yfx41_1 (h : x_RX R) {K : Nat → Prop} : ip_rfk (R 41 1) K = K 43 := by rw [rx41_1 h]; rfl
theorem yfx44_0 (h : x_RX R) {K : Nat → Prop} : ip_rfk (R 44 0) K = K 1 := by rw [rx44_0 h]; rfl
theorem yfx44_1 (h : x_RX R) {K : Nat → Prop} : ip_rfk (R 44 1) K = K 17 := by rw [rx44_1 h]; rfl
theorem yfx44_2 (h : x_RX R) {K : Nat → Prop} : ip_rfk (R 44 2) K = K 45 := by rw [rx44_2 h]; rfl
theorem yfx44_3 (h : x_RX R) {K : Nat → Prop} : ip_rfk (R 44 3) K = K 46 := by rw [rx44_3 h]; rfl
theorem yfx44_4 (h : x_RX R) {K : Nat → Prop} : ip_rfk (R 44 4) K = K 47 := by rw [rx44_4 h]; rfl
theorem yfx44_5 (h : x_RX R) {K : Nat → Prop} : ip_rfk (R 44 5) K = K 48 := by rw [rx44_5 h]; rfl
theorem yfx49_0 (h : x_RX R) {K : Nat → Prop} : ip_rfk (R 49 0) K = K 54 := by rw [rx49_0 h]; rfl
theorem yfx54_0 (h : x_RX R) {K : Nat → Prop} : ip_rfk (R 54 0) K = K 55 := by rw [rx54_0 h]; rfl
theorem yfx49_1 (h : x_RX R) {K : Nat → Prop} : ip_rfk (R 49 1) K = K 56 := by rw [rx49_1 h]; rfl
theorem yfx56_0 (h : x_RX R) {K : Nat → Prop} : ip_rfk (R 56 0) K = K 57 := by rw [rx56_0 h]; rfl
theorem yfx49_2 (h : x_RX R) {K : Nat → Prop} : ip_rfk (R 49 2) K = K 58 := by rw [rx49_2 h]; rfl
theorem yfx58_0 (h : x_RX R) {K : Nat → Prop} : ip_rfk (R 58 0) K = K 59 := by rw [rx58_0 h]; rfl
theorem yfx49_3 (h : x_RX R) {K : Nat → Prop} : ip_rfk (R 49 3) K = K 60 := by rw [rx49_3 h]; rfl
theorem yfx60_0 (h : x_RX R) {K : Nat → Prop} : ip_rfk (R 60 0) K = K 61 := by rw [rx60_0 h]; rfl
theorem yfm1 (h : x_RM R) {K : Nat → Prop} : ip_rfk (R 62 1) K = K 63 := by rw [rm1 h]; rfl
theorem yfm2 (h : x_RM R) {K : Nat → Prop} : ip_rfk (R 62 2) K = K 64 := by rw [rm2 h]; rfl
theorem yfm5 (h : x_RM R) {K : Nat → Prop} : ip_rfk (R 62 5) K = K 65 := by rw [rm5 h]; rfl
theorem yfm8 (h : x_RM R) {K : Nat → Prop} : ip_rfk (R 62 8) K = K 66 := by rw [rm8 h]; rfl
theorem yfm9 (h : x_RM R) {K : Nat → Prop} : ip_rfk (R 62 9) K = K 67 := by rw [rm9 h]; rfl
theorem yfm10 (h : x_RM R) {K : Nat → Prop} : ip_rfk (R 62 10) K = K 68 := by rw [rm10 h]; rfl
theorem yfm12 (h : x_RM R) {K : Nat → Prop} : ip_rfk (R 62 12) K = K 69 := by rw [rm12 h]; rfl
theorem yfm28 (h : x_RM R) {K : Nat → Prop} : ip_rfk (R 62 28) K = K 70 := by rw [rm28 h]; rfl
theorem yfm32 (h : x_RM R) {K : Nat → Prop} : ip_rfk (R 62 32) K = K 71 := by rw [rm32 h]; rfl
theorem yfm35 (h : x_RM R) {K : Nat → Prop} : ip_rfk (R 62 35) K = K 72 := by rw [rm35 h]; rfl
theorem yfm36 (h : x_RM R) {K : Nat → Prop} : ip_rfk (R 62 36) K = K 73 := by rw [rm36 h]; rfl
theorem yfm37 (h : x_RM R) {K : Nat → Prop} : ip_rfk (R 62 37) K = K 74 := by rw [rm37 h]; rfl
theorem yfm41 (h : x_RM R) {K : Nat → Prop} : ip_rfk (R 62 41) K = K 75 := by rw [rm41 h]; rfl
theorem yfm42 (h : x_RM R) {K : Nat → Prop} : ip_rfk (R 62 42) K = K 76 := by rw [rm42 h]; rfl
theorem yfm43 (h : x_RM R) {K : Nat → Prop} : ip_rfk (R 62 43) K = K 77 := by rw [rm43 h]; rfl
theorem yfm44 (h : x_RM R) {K : Nat → Prop} : ip_rfk (R 62 44) K = K 78 := by rw [rm44 h]; rfl
theorem rx_T (h : x_RX R) {t : Nat} (ht : t < 6) : R 18 (t : Int) = some (26 + 3 * t) ∧ R (26 + 3 * t) 0 = some (27 + 3 * t) ∧ R (26 + 3 * t) 1 = some (28 + 3 * t) := by
  match t, ht with
  | 0, _ => exact ⟨rx18_0 h, rx26_0 h, rx26_1 h⟩
  | 1, _ => exact ⟨rx18_1 h, rx29_0 h, rx29_1 h⟩
  | 2, _ => exact ⟨rx18_2 h, rx32_0 h, rx32_1 h⟩
  | 3, _ => exact ⟨rx18_3 h, rx35_0 h, rx35_1 h⟩
  | 4, _ => exact ⟨rx18_4 h, rx38_0 h, rx38_1 h⟩
  | 5, _ => exact ⟨rx18_5 h, rx41_0 h, rx41_1 h⟩
  | t + 6, ht => omega
theorem rx_S (h : x_RX R) {s : Nat} (hs : s < 4) : R 49 (s : Int) = some (54 + 2 * s) ∧ R (54 + 2 * s) 0 = some (55 + 2 * s) := by
  match s, hs with
  | 0, _ => exact ⟨rx49_0 h, rx54_0 h⟩
  | 1, _ => exact ⟨rx49_1 h, rx56_0 h⟩
  | 2, _ => exact ⟨rx49_2 h, rx58_0 h⟩
  | 3, _ => exact ⟨rx49_3 h, rx60_0 h⟩
  | s + 4, hs => omega
theorem x_Rof {n : Nat} (h : x_RX R) (hn : 44 ≤ n) : x_R n R := ⟨hn, rx17_0 h, rx17_1 h, rx17_2 h, rx24_0 h, rx19_0 h, rx19_1 h, rx19_2 h, rx19_3 h, fun t ht => rx_T h ht⟩
theorem x_RXu (h : x_RX R) {v : Nat} : x_RX (ip_ur R 24 1 v) := by
  intro e he
  have hne : ∀ e : Nat × Int × Nat, e ∈ x_L1 → ¬ (e.1 = 24 ∧ e.2.1 = 1) := by decide +kernel
  have := hne e he
  unfold ip_ur
  rw [if_neg this]
  exact h e he
theorem x_RMu (h : x_RM R) {v : Nat} : x_RM (ip_ur R 24 1 v) := by
  intro e he
  have hne : ∀ e : Nat × Int × Nat, e ∈ x_L2 → ¬ (e.1 = 24 ∧ e.2.1 = 1) := by decide +kernel
  have := hne e he
  unfold ip_ur
  rw [if_neg this]
  exact h e he
end PTR
/-! the constructors, to their ends -/
theorem m_g1 : (x_read m_s0.2.1 m_s0.2.2.2 m_s0.1 (fun _ => 0) (fun _ => 0)).1 = true := by decide +kernel
theorem m_g2 : m_s0.2.1 (x_read m_s0.2.1 m_s0.2.2.2 m_s0.1 (fun _ => 0) (fun _ => 0)).2.1 = -1 := by decide +kernel
def m_R3 (R : ip_R) : ip_R := ip_ur (ip_ur (ip_ur (ip_ur (ip_ur (ip_ur (ip_ur (ip_ur (ip_ur R 17 0 18) 19 0 20) 19 1 21) 19 2 22) 19 3 23) 17 1 19) 24 0 19) 17 2 24) 17 3 25
def m_R4 (R : ip_R) : ip_R := ip_ur (m_RT 6 (m_R3 R)) 24 1 26
def m_S4 (S : ip_S) : ip_S := ip_up (ip_up (x_S2 (m_tp S 62) 62 0) 19 4 0) 17 4 1
section CON
variable {d n t : Nat} {S : ip_S} {R : ip_R} {L : ip_S} {Q : Option Value → Nat → ip_S → ip_R → ip_S → Prop}
theorem m_R3x : x_R 44 (m_RT 6 (m_R3 R)) := by
  refine ⟨Nat.le_refl _, ?_, ?_, ?_, ?_, ?_, ?_, ?_, ?_, ?_⟩
  all_goals first
    | (rw [m_RT17 (by omega) (by omega)]; simp [m_R3, ip_ur]; done)
    | (intro t ht
       match t, ht with
       | 0, _ => refine ⟨?_, ?_, ?_⟩ <;> simp [m_RT, ip_ur]
       | 1, _ => refine ⟨?_, ?_, ?_⟩ <;> simp [m_RT, ip_ur]
       | 2, _ => refine ⟨?_, ?_, ?_⟩ <;> simp [m_RT, ip_ur]
       | 3, _ => refine ⟨?_, ?_, ?_⟩ <;> simp [m_RT, ip_ur]
       | 4, _ => refine ⟨?_, ?_, ?_⟩ <;> simp [m_RT, ip_ur]
       | 5, _ => refine ⟨?_, ?_, ?_⟩ <;> simp [m_RT, ip_ur]
       | t + 6, ht => omega)
theorem m_tp20 (h : S 20 = fun _ => 0) : m_tp S 62 20 = m_b0 := by
  funext k
  unfold m_tp m_b0
  rw [if_neg (by omega), h]
  by_cases h1 : 0 ≤ k ∧ k < 62
  · rw [if_pos ⟨rfl, h1⟩, if_pos h1]
  · rw [if_neg (by omega), if_neg h1]
theorem m_tpn {a : Nat} (h1 : a ≠ 19) (h2 : a ≠ 20) : m_tp S 62 a = S a := by
  funext k; unfold m_tp; rw [if_neg (by omega), if_neg (by omega)]
theorem m_spt (h20 : S 20 = fun _ => 0) (h21 : S 21 = fun _ => 0) (h22 : S 22 = fun _ => 0) (h23 : S 23 = fun _ => 0) : x_spt (m_tp S 62) 62 = m_s0 := by
  unfold x_spt m_s0
  rw [m_tp20 h20, m_tpn (by omega) (by omega), m_tpn (by omega) (by omega), m_tpn (by omega) (by omega), h21, h22, h23]
theorem m_flt (h20 : S 20 = fun _ => 0) (h21 : S 21 = fun _ => 0) (h22 : S 22 = fun _ => 0) (h23 : S 23 = fun _ => 0) (h27 : S 27 = fun _ => 0) (h28 : S 28 = fun _ => 0) : x_fl (m_tp S 62) 62 0 = -1 := by
  unfold x_fl x_got
  rw [m_spt h20 h21 h22 h23, m_tpn (by omega) (by omega), m_tpn (by omega) (by omega), show 27 + 3 * 0 = 27 from rfl, show 28 + 3 * 0 = 28 from rfl, h27, h28]
  unfold x_flt
  exact if_pos ⟨m_g1, m_g2⟩
theorem m_b0r (i : Int) (h0 : 0 ≤ i) (h1 : i < 160) : 0 ≤ m_b0 i ∧ m_b0 i < 256 := by
  unfold m_b0
  by_cases h : 0 ≤ i ∧ i < 62
  · rw [if_pos h]
    have hv := ip_txV 0 (by omega) i.toNat (by omega)
    omega
  · rw [if_neg h]; omega
theorem x_W0 : x_W (fun _ => 0) := fun _ _ _ => (ip_wid (by omega) (by omega) : ip_w 0 = 0)
theorem kM18 : ((ip_kd 18).1 = 3 ∧ (6 : Int) = ((ip_kd 18).2 : Int)) = True := eq_true ⟨rfl, rfl⟩
theorem kM49 : ((ip_kd 49).1 = 2 ∧ (4 : Int) = ((ip_kd 49).2 : Int)) = True := eq_true ⟨rfl, rfl⟩
theorem p4 (hk : S 17 4 = 0) (hz : S 19 4 = 0) (h20 : S 20 = fun _ => 0) (h21 : S 21 = fun _ => 0) (h22 : S 22 = fun _ => 0) (h23 : S 23 = fun _ => 0) (h27 : S 27 = fun _ => 0) (h28 : S 28 = fun _ => 0) :
    ip_wc (d + 52) 4 [.ref 17] 18 S R L Q = Q none 44 (m_S4 S) (m_R4 R) L := by
  have h5 := fun R' Q' => p5 (d := d + 50) (S := S) (R := R') (L := L) (Q := Q')
  have h6 := fun R' Q' => p6 (d := d + 50) (S := S) (R := R') (L := L) (Q := Q')
  have e3 : m_R3 R 17 0 = some 18 := by simp [m_R3, ip_ur]
  have hu : ip_ur (ip_ur (ip_ur (ip_ur (ip_ur (ip_ur (ip_ur (ip_ur (ip_ur R 17 0 18) 19 0 20) 19 1 21) 19 2 22) 19 3 23) 17 1 19) 24 0 19) 17 2 24) 17 3 25 = m_R3 R := rfl
  have e4 : ip_ur (ip_ur (ip_ur (ip_ur (ip_ur (ip_ur R 17 0 18) 19 0 20) 19 1 21) 19 2 22) 19 3 23) 17 1 19 17 1 = some 19 := by simp [ip_ur]
  have ha : ip_wp (d + 51) 4 24 [some (.ref 17), some (vi 0)] [] 26 S (m_R3 R) L Q = ip_wp (d + 51) 4 36 [some (.ref 17), some (vi 6)] [] 44 S (m_RT 6 (m_R3 R)) L Q := p4a (d := d + 50) e3 6 0 rfl
  have e1 : m_RT 6 (m_R3 R) 17 1 = some 19 := m_R3x.2.2.1
  have e2 : m_RT 6 (m_R3 R) 19 0 = some 20 := m_R3x.2.2.2.2.2.1
  have hb := p4b (d := d + 47) (S := S) (L := L) (Q := Q) e1 e2 62 0 (by omega) (by omega)
  rw [m_tp0 hz] at hb
  have h16 := fun Q' => p16 (d := d) (n := 44) (t := 0) (S := m_tp S 62) (R := m_RT 6 (m_R3 R)) (L := L) (Q := Q') (sz := 62) m_R3x (by omega) (by rw [m_tpn (by omega) (by omega)]; exact hk) (if_pos ⟨rfl, rfl⟩) (by omega) (by omega) (by rw [m_tp20 h20]; exact m_b0r) (by rw [m_tpn (by omega) (by omega), h21]; exact x_W0) (by rw [m_tpn (by omega) (by omega), h23]; exact x_W0) (by rw [m_flt h20 h21 h22 h23 h27 h28]; exact ip_wid (by omega) (by omega))
  simp only [m_flt h20 h21 h22 h23 h27 h28, if_true, show 26 + 3 * 0 = 26 from rfl] at h16
  have hS : ip_up (ip_up (x_S2 (m_tp S 62) 62 0) 19 4 0) 17 4 (((0 : Nat) : Int) + 1) = m_S4 S := rfl
  have hRR : ip_ur (m_RT 6 (m_R3 R)) 24 1 26 = m_R4 R := rfl
  rw [hS, hRR] at h16
  simp (disch := omega) only [c4, s4_0, s4_1, s4_2, s4_3, s4_4, s4_5, s4_6, s4_7, s4_8, s4_9, s4_10, s4_11, s4_12, s4_13, s4_14, s4_15, s4_16, s4_17, s4_18, s4_19, s4_20, s4_21, s4_22, s4_23, s4_25, s4_26, s4_27, s4_28, s4_29, s4_30, s4_31, s4_32, s4_33, s4_34, s4_35, s4_37, s4_39, s4_40, s4_41, s4_42, s4_43, s4_44, s4_45, s4_46, s4_47, s4_48, s4_49, s4_50, s4_51, s4_52, s4_53, s4_54, ↓reduceIte, Bool.true_eq_false, Bool.false_eq_true, ip_rfS, true_or, or_true, true_and, and_true, Option.toList_some, Option.toList_none, List.cons_append, List.nil_append, ip_fxn, ip_fxi, ip_fxr, ip_fxl, ip_wid, ip_n998, ip_lt900, iO0, iO1, iA2, iA3, iA4, iA5, iA6, iA7, iA8, iO9, iA10, iA11, iA12, iA13, iA14, iA15, iA16, iO17, iA18, iO19, iA20, iA21, iA22, iA23, iO24, iA25, iO26, iA27, iA28, iO29, iA30, iA31, iO32, iA33, iA34, iO35, iA36, iA37, iO38, iA39, iA40, iO41, iA42, iA43, iO44, iA45, iA46, iA47, iA48, iA49, iA50, iA51, iA52, iA53, iO54, iA55, iO56, iA57, iO58, iA59, iO60, iA61, iO62, iA63, iA64, iA65, iA66, iA67, iA68, iA69, iA70, iA71, iA72, iA73, iA74, iA75, iA76, iA77, iA78, iOT, iAT1, iAT2, iOS, iAS, Nat.reduceAdd, kM18, kN19, kN24, kN25, h5, h6, e4, hu, ha]
  rw [s4_36]
  simp (disch := omega) only [s4_0, s4_1, s4_2, s4_3, s4_4, s4_5, s4_6, s4_7, s4_8, s4_9, s4_10, s4_11, s4_12, s4_13, s4_14, s4_15, s4_16, s4_17, s4_18, s4_19, s4_20, s4_21, s4_22, s4_23, s4_24, s4_25, s4_26, s4_27, s4_28, s4_29, s4_30, s4_31, s4_32, s4_33, s4_34, s4_35, s4_37, s4_39, s4_40, s4_41, s4_42, s4_43, s4_44, s4_45, s4_46, s4_47, s4_48, s4_49, s4_50, s4_51, s4_52, s4_53, s4_54, ↓reduceIte, Bool.true_eq_false, Bool.false_eq_true, ip_rfS, true_or, or_true, true_and, and_true, Option.toList_some, Option.toList_none, List.cons_append, List.nil_append, ip_fxn, ip_fxi, ip_fxr, ip_fxl, ip_wid, ip_n998, ip_lt900, iO0, iO1, iA2, iA3, iA4, iA5, iA6, iA7, iA8, iO9, iA10, iA11, iA12, iA13, iA14, iA15, iA16, iO17, iA18, iO19, iA20, iA21, iA22, iA23, iO24, iA25, iO26, iA27, iA28, iO29, iA30, iA31, iO32, iA33, iA34, iO35, iA36, iA37, iO38, iA39, iA40, iO41, iA42, iA43, iO44, iA45, iA46, iA47, iA48, iA49, iA50, iA51, iA52, iA53, iO54, iA55, iO56, iA57, iO58, iA59, iO60, iA61, iO62, iA63, iA64, iA65, iA66, iA67, iA68, iA69, iA70, iA71, iA72, iA73, iA74, iA75, iA76, iA77, iA78, iOT, iAT1, iAT2, iOS, iAS, hb, h16]
def m_SH : Nat → ip_S → ip_S
  | 0, S => S
  | s + 1, S => ip_up (m_SH s S) (54 + 2 * s) 1 (-1)
def m_RH : Nat → ip_R → ip_R
  | 0, R => R
  | s + 1, R => ip_ur (ip_ur (m_RH s R) (54 + 2 * s) 0 (55 + 2 * s)) 49 s (54 + 2 * s)
theorem m_RH0 {a : Nat} {k : Int} (ha : a < 49) : ∀ s, m_RH s R a k = R a k
  | 0 => rfl
  | s + 1 => by
    unfold m_RH ip_ur
    rw [if_neg (by omega), if_neg (by omega)]
    exact m_RH0 ha s
theorem kS0 {s : Nat} (h : s < 4) : ((ip_kd (54 + 2 * s)).1 = 10 + 7) = True := eq_true (of_eq_true (iOS h (Nat.le_refl 62))).2
theorem p0l (hR : R 0 5 = some 49) : ∀ (k s : Nat), s + k = 4 →
    ip_wp (d + 1) 0 48 [some (.ref 0), some (vi s)] [] (54 + 2 * s) (m_SH s S) (m_RH s R) L Q = Q none 62 (m_SH 4 S) (m_RH 4 R) L
  | 0, s, h => by
    have e : s = 4 := by omega
    subst e
    rw [s0_48]
    simp (disch := omega) only [s0_0, s0_1, s0_2, s0_3, s0_4, s0_5, s0_6, s0_7, s0_8, s0_9, s0_10, s0_11, s0_12, s0_13, s0_14, s0_15, s0_16, s0_17, s0_18, s0_19, s0_20, s0_21, s0_22, s0_23, s0_24, s0_25, s0_26, s0_27, s0_28, s0_29, s0_30, s0_31, s0_32, s0_33, s0_34, s0_35, s0_36, s0_37, s0_38, s0_39, s0_40, s0_41, s0_42, s0_43, s0_44, s0_45, s0_46, s0_47, s0_49, s0_50, s0_51, s0_52, s0_53, s0_54, s0_55, s0_56, s0_57, s0_58, s0_59, s0_60, ↓reduceIte, Bool.true_eq_false, Bool.false_eq_true, ip_rfS, true_or, or_true, true_and, and_true, Option.toList_some, Option.toList_none, List.cons_append, List.nil_append, ip_fxn, ip_fxi, ip_fxr, ip_fxl, ip_wid, ip_n998, ip_lt900, show ((4 : Nat) : Int) = 4 from rfl, Int.lt_irrefl, Nat.reduceMul, Nat.reduceAdd]
  | k + 1, s, h => by
    have ih := p0l hR k (s + 1) (by omega)
    have e1 : 54 + 2 * (s + 1) = 56 + 2 * s := by omega
    rw [e1] at ih
    rw [s0_48, ← ih]
    have hr : m_RH s R 0 5 = some 49 := by rw [m_RH0 (by omega)]; exact hR
    have c1 : ip_isA (56 + 2 * s) 49 2 (s : Int) = True := iA49 (by omega) (by omega) (by omega)
    have c2 : ip_isO (56 + 2 * s) (54 + 2 * s) 7 = True := iOS2 (by omega) (by omega)
    have c3 := fun Q' => p43 (d := d) (s := s) (S := m_SH s S) (R := m_RH s R) (L := L) (Q := Q') (by omega)
    simp (disch := omega) only [s0_0, s0_1, s0_2, s0_3, s0_4, s0_5, s0_6, s0_7, s0_8, s0_9, s0_10, s0_11, s0_12, s0_13, s0_14, s0_15, s0_16, s0_17, s0_18, s0_19, s0_20, s0_21, s0_22, s0_23, s0_24, s0_25, s0_26, s0_27, s0_28, s0_29, s0_30, s0_31, s0_32, s0_33, s0_34, s0_35, s0_36, s0_37, s0_38, s0_39, s0_40, s0_41, s0_42, s0_43, s0_44, s0_45, s0_46, s0_47, s0_49, s0_50, s0_51, s0_52, s0_53, s0_54, s0_55, s0_56, s0_57, s0_58, s0_59, s0_60, ↓reduceIte, Bool.true_eq_false, Bool.false_eq_true, ip_rfS, true_or, or_true, true_and, and_true, Option.toList_some, Option.toList_none, List.cons_append, List.nil_append, ip_fxn, ip_fxi, ip_fxr, ip_fxl, ip_wid, ip_n998, ip_lt900, iO0, hr, show (s : Int) < 4 by omega, kS0 (show s < 4 by omega), show 54 + 2 * s + 1 = 55 + 2 * s by omega, c3, c1, c2, or_true, true_or, and_self, m_SH, m_RH, show ((s + 1 : Nat) : Int) = (s : Int) + 1 from rfl]
def m_Sa (S : ip_S) : ip_S := ip_ar (ip_up S 8 0 9) 3 (m_fw (S 2) (S 3))
def m_Sb (S : ip_S) : ip_S := ip_ar (ip_up S 16 0 9) 11 (m_fw (S 10) (S 11))
def m_R42 (R : ip_R) : ip_R := ip_ur (ip_ur (ip_ur (ip_ur (ip_ur (ip_ur R 44 2 45) 44 3 46) 44 4 47) 44 5 48) 44 0 1) 44 1 17
def m_Rc (R : ip_R) : ip_R := ip_ur (m_R4 (ip_ur (m_RW9 (ip_ur (m_RW1 R) 0 0 1)) 0 1 9)) 0 3 17
def m_Rd (R : ip_R) : ip_R := ip_ur (ip_ur (ip_ur (ip_ur (ip_ur (ip_ur (m_R42 (m_Rc R)) 0 4 44) 0 5 49) 0 6 50) 0 7 51) 0 8 52) 0 9 53
def m_R0 (R : ip_R) : ip_R := m_RH 4 (m_Rd R)
def m_S0 (S : ip_S) : ip_S := m_SH 4 (m_S4 (m_Sb (m_Sa S)))
theorem m_Sba {a : Nat} (h : 17 ≤ a) : m_Sb (m_Sa S) a = S a := by
  funext k
  simp only [m_Sb, m_Sa, ip_ar, ip_up, show ¬ a = 11 by omega, show ¬ a = 3 by omega, show ¬ a = 8 by omega, show ¬ a = 16 by omega, false_and, if_false]
theorem p0 (hZ : ∀ a : Nat, a < 79 → S a = fun _ => 0) : ip_wc (d + 53) 0 [.ref 0] 1 S R L Q = Q none 62 (m_S0 S) (m_R0 R) L := by
  have z : ∀ a : Nat, 17 ≤ a → a < 79 → m_Sb (m_Sa S) a = fun _ => 0 := fun a h1 h2 => by rw [m_Sba h1, hZ a h2]
  have h1 := fun S' R' Q' => p1_1 (d := d + 49) (S := S') (R := R') (L := L) (Q := Q')
  have h9 := fun S' R' Q' => p1_9 (d := d + 49) (S := S') (R := R') (L := L) (Q := Q')
  have h4 := fun R' Q' => p4 (d := d) (S := m_Sb (m_Sa S)) (R := R') (L := L) (Q := Q') (by rw [z 17 (by omega) (by omega)]) (by rw [z 19 (by omega) (by omega)]) (z 20 (by omega) (by omega)) (z 21 (by omega) (by omega)) (z 22 (by omega) (by omega)) (z 23 (by omega) (by omega)) (z 27 (by omega) (by omega)) (z 28 (by omega) (by omega))
  have h42 := fun S' R' Q' => p42 (d := d + 51) (S := S') (R := R') (L := L) (Q := Q')
  have ua : ip_ar (ip_up S 8 0 9) 3 (m_fw (S 2) (S 3)) = m_Sa S := rfl
  have ub : ∀ S', ip_ar (ip_up S' 16 0 9) 11 (m_fw (S' 10) (S' 11)) = m_Sb S' := fun _ => rfl
  have uc : ip_ur (m_R4 (ip_ur (m_RW9 (ip_ur (m_RW1 R) 0 0 1)) 0 1 9)) 0 3 17 = m_Rc R := rfl
  have u2 : ip_ur (ip_ur (ip_ur (ip_ur (ip_ur (ip_ur (m_Rc R) 44 2 45) 44 3 46) 44 4 47) 44 5 48) 44 0 1) 44 1 17 = m_R42 (m_Rc R) := rfl
  have ud : ip_ur (ip_ur (ip_ur (ip_ur (ip_ur (ip_ur (m_R42 (m_Rc R)) 0 4 44) 0 5 49) 0 6 50) 0 7 51) 0 8 52) 0 9 53 = m_Rd R := rfl
  have e1 : m_Rc R 0 0 = some 1 := by simp [m_Rc, m_R4, m_RT, m_R3, m_RW9, m_RW1, ip_ur]
  have e2 : m_Rc R 0 3 = some 17 := by simp [m_Rc, ip_ur]
  have e5 : m_Rd R 0 5 = some 49 := by simp [m_Rd, ip_ur]
  have hl : ip_wp (d + 52) 0 48 [some (.ref 0), some (vi 0)] [] 54 (m_S4 (m_Sb (m_Sa S))) (m_Rd R) L Q = Q none 62 (m_S0 S) (m_R0 R) L := p0l (d := d + 51) e5 4 0 rfl
  simp (disch := omega) only [c0, s0_0, s0_1, s0_2, s0_3, s0_4, s0_5, s0_6, s0_7, s0_8, s0_9, s0_10, s0_11, s0_12, s0_13, s0_14, s0_15, s0_16, s0_17, s0_18, s0_19, s0_20, s0_21, s0_22, s0_23, s0_24, s0_25, s0_26, s0_27, s0_28, s0_29, s0_30, s0_31, s0_32, s0_33, s0_34, s0_35, s0_36, s0_37, s0_38, s0_39, s0_40, s0_41, s0_42, s0_43, s0_44, s0_45, s0_46, s0_47, s0_49, s0_50, s0_51, s0_52, s0_53, s0_54, s0_55, s0_56, s0_57, s0_58, s0_59, s0_60, ↓reduceIte, Bool.true_eq_false, Bool.false_eq_true, ip_rfS, true_or, or_true, true_and, and_true, Option.toList_some, Option.toList_none, List.cons_append, List.nil_append, ip_fxn, ip_fxi, ip_fxr, ip_fxl, ip_wid, ip_n998, ip_lt900, iO0, iO1, iA2, iA3, iA4, iA5, iA6, iA7, iA8, iO9, iA10, iA11, iA12, iA13, iA14, iA15, iA16, iO17, iA18, iO19, iA20, iA21, iA22, iA23, iO24, iA25, iO26, iA27, iA28, iO29, iA30, iA31, iO32, iA33, iA34, iO35, iA36, iA37, iO38, iA39, iA40, iO41, iA42, iA43, iO44, iA45, iA46, iA47, iA48, iA49, iA50, iA51, iA52, iA53, iO54, iA55, iO56, iA57, iO58, iA59, iO60, iA61, iO62, iA63, iA64, iA65, iA66, iA67, iA68, iA69, iA70, iA71, iA72, iA73, iA74, iA75, iA76, iA77, iA78, iOT, iAT1, iAT2, iOS, iAS, Nat.reduceAdd, kN1, kN9, kN17, kN44, kM49, kN50, kN51, kN52, kN53, h1, h9, h4, h42, ua, ub, uc, u2, ud, e1, e2, hl]
end CON
