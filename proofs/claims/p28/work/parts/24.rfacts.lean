theorem na0 : ip_na 0 = 1 := by decide +kernel
theorem rc0 : ip_rc 0 = 5 := by decide +kernel
theorem rk0 : ip_rk 0 = 9 := by decide +kernel
theorem ml0 : ip_ml 0 = 2 := by decide +kernel
theorem c0 {d : Nat} {n : Nat} {S : ip_S} {R : ip_R} {L : ip_S} {Q : Option Value → Nat → ip_S → ip_R → ip_S → Prop} {a0 : Nat} : ip_wc (d + 1) 0 [.ref a0] n S R L Q = ip_wp d 0 0 [some (.ref a0), none] [] n S R L Q := ip_wcE ml0 (Nat.le_of_ble_eq_true rfl) rfl
theorem na1 : ip_na 1 = 1 := by decide +kernel
theorem rc1 : ip_rc 1 = 5 := by decide +kernel
theorem rk1 : ip_rk 1 = 9 := by decide +kernel
theorem ml1 : ip_ml 1 = 1 := by decide +kernel
theorem c1 {d : Nat} {n : Nat} {S : ip_S} {R : ip_R} {L : ip_S} {Q : Option Value → Nat → ip_S → ip_R → ip_S → Prop} {a0 : Nat} : ip_wc (d + 1) 1 [.ref a0] n S R L Q = ip_wp d 1 0 [some (.ref a0)] [] n S R L Q := ip_wcE ml1 (Nat.le_of_ble_eq_true rfl) rfl
theorem na2 : ip_na 2 = 1 := by decide +kernel
theorem rc2 : ip_rc 2 = 10 + 1 := by decide +kernel
theorem rk2 : ip_rk 2 = 9 := by decide +kernel
theorem ml2 : ip_ml 2 = 4 := by decide +kernel
theorem c2 {d : Nat} {n : Nat} {S : ip_S} {R : ip_R} {L : ip_S} {Q : Option Value → Nat → ip_S → ip_R → ip_S → Prop} {a0 : Nat} : ip_wc (d + 1) 2 [.ref a0] n S R L Q = ip_wp d 2 0 [some (.ref a0), none, none, none] [] n S R L Q := ip_wcE ml2 (Nat.le_of_ble_eq_true rfl) rfl
theorem na3 : ip_na 3 = 3 := by decide +kernel
theorem rc3 : ip_rc 3 = 10 + 1 := by decide +kernel
theorem rk3 : ip_rk 3 = 0 := by decide +kernel
theorem ml3 : ip_ml 3 = 3 := by decide +kernel
theorem c3 {d : Nat} {n : Nat} {S : ip_S} {R : ip_R} {L : ip_S} {Q : Option Value → Nat → ip_S → ip_R → ip_S → Prop} {a0 : Nat} {a1 : Int32} {a2 : Int32} : ip_wc (d + 1) 3 [.ref a0, .int a1, .int a2] n S R L Q = ip_wp d 3 0 [some (.ref a0), some (.int a1), some (.int a2)] [] n S R L Q := ip_wcE ml3 (Nat.le_of_ble_eq_true rfl) rfl
theorem na4 : ip_na 4 = 1 := by decide +kernel
theorem rc4 : ip_rc 4 = 5 := by decide +kernel
theorem rk4 : ip_rk 4 = 9 := by decide +kernel
theorem ml4 : ip_ml 4 = 2 := by decide +kernel
theorem c4 {d : Nat} {n : Nat} {S : ip_S} {R : ip_R} {L : ip_S} {Q : Option Value → Nat → ip_S → ip_R → ip_S → Prop} {a0 : Nat} : ip_wc (d + 1) 4 [.ref a0] n S R L Q = ip_wp d 4 0 [some (.ref a0), none] [] n S R L Q := ip_wcE ml4 (Nat.le_of_ble_eq_true rfl) rfl
theorem na5 : ip_na 5 = 1 := by decide +kernel
theorem rc5 : ip_rc 5 = 5 := by decide +kernel
theorem rk5 : ip_rk 5 = 9 := by decide +kernel
theorem ml5 : ip_ml 5 = 1 := by decide +kernel
theorem c5 {d : Nat} {n : Nat} {S : ip_S} {R : ip_R} {L : ip_S} {Q : Option Value → Nat → ip_S → ip_R → ip_S → Prop} {a0 : Nat} : ip_wc (d + 1) 5 [.ref a0] n S R L Q = ip_wp d 5 0 [some (.ref a0)] [] n S R L Q := ip_wcE ml5 (Nat.le_of_ble_eq_true rfl) rfl
theorem na6 : ip_na 6 = 2 := by decide +kernel
theorem rc6 : ip_rc 6 = 5 := by decide +kernel
theorem rk6 : ip_rk 6 = 9 := by decide +kernel
theorem ml6 : ip_ml 6 = 2 := by decide +kernel
theorem c6 {d : Nat} {n : Nat} {S : ip_S} {R : ip_R} {L : ip_S} {Q : Option Value → Nat → ip_S → ip_R → ip_S → Prop} {a0 : Nat} {a1 : Nat} : ip_wc (d + 1) 6 [.ref a0, .ref a1] n S R L Q = ip_wp d 6 0 [some (.ref a0), some (.ref a1)] [] n S R L Q := ip_wcE ml6 (Nat.le_of_ble_eq_true rfl) rfl
theorem na7 : ip_na 7 = 1 := by decide +kernel
theorem rc7 : ip_rc 7 = 5 := by decide +kernel
theorem rk7 : ip_rk 7 = 9 := by decide +kernel
theorem ml7 : ip_ml 7 = 1 := by decide +kernel
theorem c7 {d : Nat} {n : Nat} {S : ip_S} {R : ip_R} {L : ip_S} {Q : Option Value → Nat → ip_S → ip_R → ip_S → Prop} {a0 : Nat} : ip_wc (d + 1) 7 [.ref a0] n S R L Q = ip_wp d 7 0 [some (.ref a0)] [] n S R L Q := ip_wcE ml7 (Nat.le_of_ble_eq_true rfl) rfl
theorem na8 : ip_na 8 = 1 := by decide +kernel
theorem rc8 : ip_rc 8 = 30 := by decide +kernel
theorem rk8 : ip_rk 8 = 0 := by decide +kernel
theorem ml8 : ip_ml 8 = 1 := by decide +kernel
theorem c8 {d : Nat} {n : Nat} {S : ip_S} {R : ip_R} {L : ip_S} {Q : Option Value → Nat → ip_S → ip_R → ip_S → Prop} {a0 : Nat} : ip_wc (d + 1) 8 [.ref a0] n S R L Q = ip_wp d 8 0 [some (.ref a0)] [] n S R L Q := ip_wcE ml8 (Nat.le_of_ble_eq_true rfl) rfl
theorem na9 : ip_na 9 = 1 := by decide +kernel
theorem rc9 : ip_rc 9 = 30 := by decide +kernel
theorem rk9 : ip_rk 9 = 2 := by decide +kernel
theorem ml9 : ip_ml 9 = 1 := by decide +kernel
theorem c9 {d : Nat} {n : Nat} {S : ip_S} {R : ip_R} {L : ip_S} {Q : Option Value → Nat → ip_S → ip_R → ip_S → Prop} {a0 : Nat} : ip_wc (d + 1) 9 [.ref a0] n S R L Q = ip_wp d 9 0 [some (.ref a0)] [] n S R L Q := ip_wcE ml9 (Nat.le_of_ble_eq_true rfl) rfl
theorem na10 : ip_na 10 = 2 := by decide +kernel
theorem rc10 : ip_rc 10 = 30 := by decide +kernel
theorem rk10 : ip_rk 10 = 3 := by decide +kernel
theorem ml10 : ip_ml 10 = 2 := by decide +kernel
theorem c10 {d : Nat} {n : Nat} {S : ip_S} {R : ip_R} {L : ip_S} {Q : Option Value → Nat → ip_S → ip_R → ip_S → Prop} {a0 : Nat} {a1 : Int32} : ip_wc (d + 1) 10 [.ref a0, .int a1] n S R L Q = ip_wp d 10 0 [some (.ref a0), some (.int a1)] [] n S R L Q := ip_wcE ml10 (Nat.le_of_ble_eq_true rfl) rfl
theorem na11 : ip_na 11 = 1 := by decide +kernel
theorem rc11 : ip_rc 11 = 30 := by decide +kernel
theorem rk11 : ip_rk 11 = 1 := by decide +kernel
theorem ml11 : ip_ml 11 = 1 := by decide +kernel
theorem c11 {d : Nat} {n : Nat} {S : ip_S} {R : ip_R} {L : ip_S} {Q : Option Value → Nat → ip_S → ip_R → ip_S → Prop} {a0 : Nat} : ip_wc (d + 1) 11 [.ref a0] n S R L Q = ip_wp d 11 0 [some (.ref a0)] [] n S R L Q := ip_wcE ml11 (Nat.le_of_ble_eq_true rfl) rfl
theorem na12 : ip_na 12 = 2 := by decide +kernel
theorem rc12 : ip_rc 12 = 0 := by decide +kernel
theorem rk12 : ip_rk 12 = 3 := by decide +kernel
theorem ml12 : ip_ml 12 = 2 := by decide +kernel
theorem c12 {d : Nat} {n : Nat} {S : ip_S} {R : ip_R} {L : ip_S} {Q : Option Value → Nat → ip_S → ip_R → ip_S → Prop} {a0 : Nat} {a1 : Int32} : ip_wc (d + 1) 12 [.ref a0, .int a1] n S R L Q = ip_wp d 12 0 [some (.ref a0), some (.int a1)] [] n S R L Q := ip_wcE ml12 (Nat.le_of_ble_eq_true rfl) rfl
theorem na13 : ip_na 13 = 2 := by decide +kernel
theorem rc13 : ip_rc 13 = 0 := by decide +kernel
theorem rk13 : ip_rk 13 = 9 := by decide +kernel
theorem ml13 : ip_ml 13 = 2 := by decide +kernel
theorem c13 {d : Nat} {n : Nat} {S : ip_S} {R : ip_R} {L : ip_S} {Q : Option Value → Nat → ip_S → ip_R → ip_S → Prop} {a0 : Int32} {a1 : Int32} : ip_wc (d + 1) 13 [.int a0, .int a1] n S R L Q = ip_wp d 13 0 [some (.int a0), some (.int a1)] [] n S R L Q := ip_wcE ml13 (Nat.le_of_ble_eq_true rfl) rfl
theorem na14 : ip_na 14 = 3 := by decide +kernel
theorem rc14 : ip_rc 14 = 0 := by decide +kernel
theorem rk14 : ip_rk 14 = 0 := by decide +kernel
theorem ml14 : ip_ml 14 = 3 := by decide +kernel
theorem c14 {d : Nat} {n : Nat} {S : ip_S} {R : ip_R} {L : ip_S} {Q : Option Value → Nat → ip_S → ip_R → ip_S → Prop} {a0 : Int32} {a1 : Int32} {a2 : Nat} : ip_wc (d + 1) 14 [.int a0, .int a1, .ref a2] n S R L Q = ip_wp d 14 0 [some (.int a0), some (.int a1), some (.ref a2)] [] n S R L Q := ip_wcE ml14 (Nat.le_of_ble_eq_true rfl) rfl
theorem na15 : ip_na 15 = 2 := by decide +kernel
theorem rc15 : ip_rc 15 = 10 + 3 := by decide +kernel
theorem rk15 : ip_rk 15 = 1 := by decide +kernel
theorem ml15 : ip_ml 15 = 2 := by decide +kernel
theorem c15 {d : Nat} {n : Nat} {S : ip_S} {R : ip_R} {L : ip_S} {Q : Option Value → Nat → ip_S → ip_R → ip_S → Prop} {a0 : Nat} {a1 : Int32} : ip_wc (d + 1) 15 [.ref a0, .int a1] n S R L Q = ip_wp d 15 0 [some (.ref a0), some (.int a1)] [] n S R L Q := ip_wcE ml15 (Nat.le_of_ble_eq_true rfl) rfl
theorem na16 : ip_na 16 = 1 := by decide +kernel
theorem rc16 : ip_rc 16 = 10 + 2 := by decide +kernel
theorem rk16 : ip_rk 16 = 0 := by decide +kernel
theorem ml16 : ip_ml 16 = 2 := by decide +kernel
theorem c16 {d : Nat} {n : Nat} {S : ip_S} {R : ip_R} {L : ip_S} {Q : Option Value → Nat → ip_S → ip_R → ip_S → Prop} {a0 : Nat} : ip_wc (d + 1) 16 [.ref a0] n S R L Q = ip_wp d 16 0 [some (.ref a0), none] [] n S R L Q := ip_wcE ml16 (Nat.le_of_ble_eq_true rfl) rfl
theorem na17 : ip_na 17 = 1 := by decide +kernel
theorem rc17 : ip_rc 17 = 10 + 3 := by decide +kernel
theorem rk17 : ip_rk 17 = 9 := by decide +kernel
theorem ml17 : ip_ml 17 = 3 := by decide +kernel
theorem c17 {d : Nat} {n : Nat} {S : ip_S} {R : ip_R} {L : ip_S} {Q : Option Value → Nat → ip_S → ip_R → ip_S → Prop} {a0 : Nat} : ip_wc (d + 1) 17 [.ref a0] n S R L Q = ip_wp d 17 0 [some (.ref a0), none, none] [] n S R L Q := ip_wcE ml17 (Nat.le_of_ble_eq_true rfl) rfl
theorem na18 : ip_na 18 = 1 := by decide +kernel
theorem rc18 : ip_rc 18 = 0 := by decide +kernel
theorem rk18 : ip_rk 18 = 1 := by decide +kernel
theorem ml18 : ip_ml 18 = 1 := by decide +kernel
theorem c18 {d : Nat} {n : Nat} {S : ip_S} {R : ip_R} {L : ip_S} {Q : Option Value → Nat → ip_S → ip_R → ip_S → Prop} {a0 : Int32} : ip_wc (d + 1) 18 [.int a0] n S R L Q = ip_wp d 18 0 [some (.int a0)] [] n S R L Q := ip_wcE ml18 (Nat.le_of_ble_eq_true rfl) rfl
theorem na19 : ip_na 19 = 2 := by decide +kernel
theorem rc19 : ip_rc 19 = 10 + 3 := by decide +kernel
theorem rk19 : ip_rk 19 = 0 := by decide +kernel
theorem ml19 : ip_ml 19 = 5 := by decide +kernel
theorem c19 {d : Nat} {n : Nat} {S : ip_S} {R : ip_R} {L : ip_S} {Q : Option Value → Nat → ip_S → ip_R → ip_S → Prop} {a0 : Nat} {a1 : Int32} : ip_wc (d + 1) 19 [.ref a0, .int a1] n S R L Q = ip_wp d 19 0 [some (.ref a0), some (.int a1), none, none, none] [] n S R L Q := ip_wcE ml19 (Nat.le_of_ble_eq_true rfl) rfl
theorem na20 : ip_na 20 = 1 := by decide +kernel
theorem rc20 : ip_rc 20 = 0 := by decide +kernel
theorem rk20 : ip_rk 20 = 1 := by decide +kernel
theorem ml20 : ip_ml 20 = 1 := by decide +kernel
theorem c20 {d : Nat} {n : Nat} {S : ip_S} {R : ip_R} {L : ip_S} {Q : Option Value → Nat → ip_S → ip_R → ip_S → Prop} {a0 : Int32} : ip_wc (d + 1) 20 [.int a0] n S R L Q = ip_wp d 20 0 [some (.int a0)] [] n S R L Q := ip_wcE ml20 (Nat.le_of_ble_eq_true rfl) rfl
theorem na21 : ip_na 21 = 1 := by decide +kernel
theorem rc21 : ip_rc 21 = 0 := by decide +kernel
theorem rk21 : ip_rk 21 = 1 := by decide +kernel
theorem ml21 : ip_ml 21 = 1 := by decide +kernel
theorem c21 {d : Nat} {n : Nat} {S : ip_S} {R : ip_R} {L : ip_S} {Q : Option Value → Nat → ip_S → ip_R → ip_S → Prop} {a0 : Int32} : ip_wc (d + 1) 21 [.int a0] n S R L Q = ip_wp d 21 0 [some (.int a0)] [] n S R L Q := ip_wcE ml21 (Nat.le_of_ble_eq_true rfl) rfl
theorem na22 : ip_na 22 = 3 := by decide +kernel
theorem rc22 : ip_rc 22 = 10 + 3 := by decide +kernel
theorem rk22 : ip_rk 22 = 0 := by decide +kernel
theorem ml22 : ip_ml 22 = 5 := by decide +kernel
theorem c22 {d : Nat} {n : Nat} {S : ip_S} {R : ip_R} {L : ip_S} {Q : Option Value → Nat → ip_S → ip_R → ip_S → Prop} {a0 : Nat} {a1 : Int32} {a2 : Int32} : ip_wc (d + 1) 22 [.ref a0, .int a1, .int a2] n S R L Q = ip_wp d 22 0 [some (.ref a0), some (.int a1), some (.int a2), none, none] [] n S R L Q := ip_wcE ml22 (Nat.le_of_ble_eq_true rfl) rfl
theorem na23 : ip_na 23 = 1 := by decide +kernel
theorem rc23 : ip_rc 23 = 0 := by decide +kernel
theorem rk23 : ip_rk 23 = 1 := by decide +kernel
theorem ml23 : ip_ml 23 = 1 := by decide +kernel
theorem c23 {d : Nat} {n : Nat} {S : ip_S} {R : ip_R} {L : ip_S} {Q : Option Value → Nat → ip_S → ip_R → ip_S → Prop} {a0 : Int32} : ip_wc (d + 1) 23 [.int a0] n S R L Q = ip_wp d 23 0 [some (.int a0)] [] n S R L Q := ip_wcE ml23 (Nat.le_of_ble_eq_true rfl) rfl
theorem na24 : ip_na 24 = 1 := by decide +kernel
theorem rc24 : ip_rc 24 = 0 := by decide +kernel
theorem rk24 : ip_rk 24 = 5 := by decide +kernel
theorem ml24 : ip_ml 24 = 1 := by decide +kernel
theorem c24 {d : Nat} {n : Nat} {S : ip_S} {R : ip_R} {L : ip_S} {Q : Option Value → Nat → ip_S → ip_R → ip_S → Prop} {a0 : Int32} : ip_wc (d + 1) 24 [.int a0] n S R L Q = ip_wp d 24 0 [some (.int a0)] [] n S R L Q := ip_wcE ml24 (Nat.le_of_ble_eq_true rfl) rfl
theorem na25 : ip_na 25 = 4 := by decide +kernel
theorem rc25 : ip_rc 25 = 10 + 3 := by decide +kernel
theorem rk25 : ip_rk 25 = 1 := by decide +kernel
theorem ml25 : ip_ml 25 = 5 := by decide +kernel
theorem c25 {d : Nat} {n : Nat} {S : ip_S} {R : ip_R} {L : ip_S} {Q : Option Value → Nat → ip_S → ip_R → ip_S → Prop} {a0 : Nat} {a1 : Int32} {a2 : Int32} {a3 : Nat} : ip_wc (d + 1) 25 [.ref a0, .int a1, .int a2, .ref a3] n S R L Q = ip_wp d 25 0 [some (.ref a0), some (.int a1), some (.int a2), some (.ref a3), none] [] n S R L Q := ip_wcE ml25 (Nat.le_of_ble_eq_true rfl) rfl
theorem na26 : ip_na 26 = 3 := by decide +kernel
theorem rc26 : ip_rc 26 = 10 + 3 := by decide +kernel
theorem rk26 : ip_rk 26 = 0 := by decide +kernel
theorem ml26 : ip_ml 26 = 5 := by decide +kernel
theorem c26 {d : Nat} {n : Nat} {S : ip_S} {R : ip_R} {L : ip_S} {Q : Option Value → Nat → ip_S → ip_R → ip_S → Prop} {a0 : Nat} {a1 : Int32} {a2 : Int32} : ip_wc (d + 1) 26 [.ref a0, .int a1, .int a2] n S R L Q = ip_wp d 26 0 [some (.ref a0), some (.int a1), some (.int a2), none, none] [] n S R L Q := ip_wcE ml26 (Nat.le_of_ble_eq_true rfl) rfl
theorem na27 : ip_na 27 = 2 := by decide +kernel
theorem rc27 : ip_rc 27 = 10 + 4 := by decide +kernel
theorem rk27 : ip_rk 27 = 0 := by decide +kernel
theorem ml27 : ip_ml 27 = 3 := by decide +kernel
theorem c27 {d : Nat} {n : Nat} {S : ip_S} {R : ip_R} {L : ip_S} {Q : Option Value → Nat → ip_S → ip_R → ip_S → Prop} {a0 : Nat} {a1 : Nat} : ip_wc (d + 1) 27 [.ref a0, .ref a1] n S R L Q = ip_wp d 27 0 [some (.ref a0), some (.ref a1), none] [] n S R L Q := ip_wcE ml27 (Nat.le_of_ble_eq_true rfl) rfl
theorem na28 : ip_na 28 = 1 := by decide +kernel
theorem rc28 : ip_rc 28 = 10 + 5 := by decide +kernel
theorem rk28 : ip_rk 28 = 9 := by decide +kernel
theorem ml28 : ip_ml 28 = 1 := by decide +kernel
theorem c28 {d : Nat} {n : Nat} {S : ip_S} {R : ip_R} {L : ip_S} {Q : Option Value → Nat → ip_S → ip_R → ip_S → Prop} {a0 : Nat} : ip_wc (d + 1) 28 [.ref a0] n S R L Q = ip_wp d 28 0 [some (.ref a0)] [] n S R L Q := ip_wcE ml28 (Nat.le_of_ble_eq_true rfl) rfl
theorem na29 : ip_na 29 = 2 := by decide +kernel
theorem rc29 : ip_rc 29 = 10 + 4 := by decide +kernel
theorem rk29 : ip_rk 29 = 1 := by decide +kernel
theorem ml29 : ip_ml 29 = 2 := by decide +kernel
theorem c29 {d : Nat} {n : Nat} {S : ip_S} {R : ip_R} {L : ip_S} {Q : Option Value → Nat → ip_S → ip_R → ip_S → Prop} {a0 : Nat} {a1 : Int32} : ip_wc (d + 1) 29 [.ref a0, .int a1] n S R L Q = ip_wp d 29 0 [some (.ref a0), some (.int a1)] [] n S R L Q := ip_wcE ml29 (Nat.le_of_ble_eq_true rfl) rfl
theorem na30 : ip_na 30 = 1 := by decide +kernel
theorem rc30 : ip_rc 30 = 10 + 4 := by decide +kernel
theorem rk30 : ip_rk 30 = 9 := by decide +kernel
theorem ml30 : ip_ml 30 = 1 := by decide +kernel
theorem c30 {d : Nat} {n : Nat} {S : ip_S} {R : ip_R} {L : ip_S} {Q : Option Value → Nat → ip_S → ip_R → ip_S → Prop} {a0 : Nat} : ip_wc (d + 1) 30 [.ref a0] n S R L Q = ip_wp d 30 0 [some (.ref a0)] [] n S R L Q := ip_wcE ml30 (Nat.le_of_ble_eq_true rfl) rfl
theorem na31 : ip_na 31 = 2 := by decide +kernel
theorem rc31 : ip_rc 31 = 10 + 4 := by decide +kernel
theorem rk31 : ip_rk 31 = 1 := by decide +kernel
theorem ml31 : ip_ml 31 = 4 := by decide +kernel
theorem c31 {d : Nat} {n : Nat} {S : ip_S} {R : ip_R} {L : ip_S} {Q : Option Value → Nat → ip_S → ip_R → ip_S → Prop} {a0 : Nat} {a1 : Int32} : ip_wc (d + 1) 31 [.ref a0, .int a1] n S R L Q = ip_wp d 31 0 [some (.ref a0), some (.int a1), none, none] [] n S R L Q := ip_wcE ml31 (Nat.le_of_ble_eq_true rfl) rfl
theorem na32 : ip_na 32 = 2 := by decide +kernel
theorem rc32 : ip_rc 32 = 10 + 4 := by decide +kernel
theorem rk32 : ip_rk 32 = 1 := by decide +kernel
theorem ml32 : ip_ml 32 = 4 := by decide +kernel
theorem c32 {d : Nat} {n : Nat} {S : ip_S} {R : ip_R} {L : ip_S} {Q : Option Value → Nat → ip_S → ip_R → ip_S → Prop} {a0 : Nat} {a1 : Int32} : ip_wc (d + 1) 32 [.ref a0, .int a1] n S R L Q = ip_wp d 32 0 [some (.ref a0), some (.int a1), none, none] [] n S R L Q := ip_wcE ml32 (Nat.le_of_ble_eq_true rfl) rfl
theorem na33 : ip_na 33 = 2 := by decide +kernel
theorem rc33 : ip_rc 33 = 10 + 4 := by decide +kernel
theorem rk33 : ip_rk 33 = 1 := by decide +kernel
theorem ml33 : ip_ml 33 = 3 := by decide +kernel
theorem c33 {d : Nat} {n : Nat} {S : ip_S} {R : ip_R} {L : ip_S} {Q : Option Value → Nat → ip_S → ip_R → ip_S → Prop} {a0 : Nat} {a1 : Int32} : ip_wc (d + 1) 33 [.ref a0, .int a1] n S R L Q = ip_wp d 33 0 [some (.ref a0), some (.int a1), none] [] n S R L Q := ip_wcE ml33 (Nat.le_of_ble_eq_true rfl) rfl
theorem na34 : ip_na 34 = 2 := by decide +kernel
theorem rc34 : ip_rc 34 = 10 + 4 := by decide +kernel
theorem rk34 : ip_rk 34 = 1 := by decide +kernel
theorem ml34 : ip_ml 34 = 4 := by decide +kernel
theorem c34 {d : Nat} {n : Nat} {S : ip_S} {R : ip_R} {L : ip_S} {Q : Option Value → Nat → ip_S → ip_R → ip_S → Prop} {a0 : Nat} {a1 : Int32} : ip_wc (d + 1) 34 [.ref a0, .int a1] n S R L Q = ip_wp d 34 0 [some (.ref a0), some (.int a1), none, none] [] n S R L Q := ip_wcE ml34 (Nat.le_of_ble_eq_true rfl) rfl
theorem na35 : ip_na 35 = 2 := by decide +kernel
theorem rc35 : ip_rc 35 = 10 + 4 := by decide +kernel
theorem rk35 : ip_rk 35 = 1 := by decide +kernel
theorem ml35 : ip_ml 35 = 5 := by decide +kernel
theorem c35 {d : Nat} {n : Nat} {S : ip_S} {R : ip_R} {L : ip_S} {Q : Option Value → Nat → ip_S → ip_R → ip_S → Prop} {a0 : Nat} {a1 : Int32} : ip_wc (d + 1) 35 [.ref a0, .int a1] n S R L Q = ip_wp d 35 0 [some (.ref a0), some (.int a1), none, none, none] [] n S R L Q := ip_wcE ml35 (Nat.le_of_ble_eq_true rfl) rfl
theorem na36 : ip_na 36 = 2 := by decide +kernel
theorem rc36 : ip_rc 36 = 10 + 4 := by decide +kernel
theorem rk36 : ip_rk 36 = 1 := by decide +kernel
theorem ml36 : ip_ml 36 = 4 := by decide +kernel
theorem c36 {d : Nat} {n : Nat} {S : ip_S} {R : ip_R} {L : ip_S} {Q : Option Value → Nat → ip_S → ip_R → ip_S → Prop} {a0 : Nat} {a1 : Int32} : ip_wc (d + 1) 36 [.ref a0, .int a1] n S R L Q = ip_wp d 36 0 [some (.ref a0), some (.int a1), none, none] [] n S R L Q := ip_wcE ml36 (Nat.le_of_ble_eq_true rfl) rfl
theorem na37 : ip_na 37 = 2 := by decide +kernel
theorem rc37 : ip_rc 37 = 10 + 4 := by decide +kernel
theorem rk37 : ip_rk 37 = 1 := by decide +kernel
theorem ml37 : ip_ml 37 = 2 := by decide +kernel
theorem c37 {d : Nat} {n : Nat} {S : ip_S} {R : ip_R} {L : ip_S} {Q : Option Value → Nat → ip_S → ip_R → ip_S → Prop} {a0 : Nat} {a1 : Int32} : ip_wc (d + 1) 37 [.ref a0, .int a1] n S R L Q = ip_wp d 37 0 [some (.ref a0), some (.int a1)] [] n S R L Q := ip_wcE ml37 (Nat.le_of_ble_eq_true rfl) rfl
theorem na38 : ip_na 38 = 2 := by decide +kernel
theorem rc38 : ip_rc 38 = 10 + 5 := by decide +kernel
theorem rk38 : ip_rk 38 = 9 := by decide +kernel
theorem ml38 : ip_ml 38 = 2 := by decide +kernel
theorem c38 {d : Nat} {n : Nat} {S : ip_S} {R : ip_R} {L : ip_S} {Q : Option Value → Nat → ip_S → ip_R → ip_S → Prop} {a0 : Nat} {a1 : Int32} : ip_wc (d + 1) 38 [.ref a0, .int a1] n S R L Q = ip_wp d 38 0 [some (.ref a0), some (.int a1)] [] n S R L Q := ip_wcE ml38 (Nat.le_of_ble_eq_true rfl) rfl
theorem na39 : ip_na 39 = 2 := by decide +kernel
theorem rc39 : ip_rc 39 = 10 + 4 := by decide +kernel
theorem rk39 : ip_rk 39 = 1 := by decide +kernel
theorem ml39 : ip_ml 39 = 3 := by decide +kernel
theorem c39 {d : Nat} {n : Nat} {S : ip_S} {R : ip_R} {L : ip_S} {Q : Option Value → Nat → ip_S → ip_R → ip_S → Prop} {a0 : Nat} {a1 : Int32} : ip_wc (d + 1) 39 [.ref a0, .int a1] n S R L Q = ip_wp d 39 0 [some (.ref a0), some (.int a1), none] [] n S R L Q := ip_wcE ml39 (Nat.le_of_ble_eq_true rfl) rfl
theorem na40 : ip_na 40 = 2 := by decide +kernel
theorem rc40 : ip_rc 40 = 10 + 4 := by decide +kernel
theorem rk40 : ip_rk 40 = 1 := by decide +kernel
theorem ml40 : ip_ml 40 = 2 := by decide +kernel
theorem c40 {d : Nat} {n : Nat} {S : ip_S} {R : ip_R} {L : ip_S} {Q : Option Value → Nat → ip_S → ip_R → ip_S → Prop} {a0 : Nat} {a1 : Int32} : ip_wc (d + 1) 40 [.ref a0, .int a1] n S R L Q = ip_wp d 40 0 [some (.ref a0), some (.int a1)] [] n S R L Q := ip_wcE ml40 (Nat.le_of_ble_eq_true rfl) rfl
theorem na41 : ip_na 41 = 2 := by decide +kernel
theorem rc41 : ip_rc 41 = 10 + 5 := by decide +kernel
theorem rk41 : ip_rk 41 = 9 := by decide +kernel
theorem ml41 : ip_ml 41 = 2 := by decide +kernel
theorem c41 {d : Nat} {n : Nat} {S : ip_S} {R : ip_R} {L : ip_S} {Q : Option Value → Nat → ip_S → ip_R → ip_S → Prop} {a0 : Nat} {a1 : Int32} : ip_wc (d + 1) 41 [.ref a0, .int a1] n S R L Q = ip_wp d 41 0 [some (.ref a0), some (.int a1)] [] n S R L Q := ip_wcE ml41 (Nat.le_of_ble_eq_true rfl) rfl
theorem na42 : ip_na 42 = 3 := by decide +kernel
theorem rc42 : ip_rc 42 = 5 := by decide +kernel
theorem rk42 : ip_rk 42 = 9 := by decide +kernel
theorem ml42 : ip_ml 42 = 3 := by decide +kernel
theorem c42 {d : Nat} {n : Nat} {S : ip_S} {R : ip_R} {L : ip_S} {Q : Option Value → Nat → ip_S → ip_R → ip_S → Prop} {a0 : Nat} {a1 : Nat} {a2 : Nat} : ip_wc (d + 1) 42 [.ref a0, .ref a1, .ref a2] n S R L Q = ip_wp d 42 0 [some (.ref a0), some (.ref a1), some (.ref a2)] [] n S R L Q := ip_wcE ml42 (Nat.le_of_ble_eq_true rfl) rfl
theorem na43 : ip_na 43 = 1 := by decide +kernel
theorem rc43 : ip_rc 43 = 5 := by decide +kernel
theorem rk43 : ip_rk 43 = 9 := by decide +kernel
theorem ml43 : ip_ml 43 = 1 := by decide +kernel
theorem c43 {d : Nat} {n : Nat} {S : ip_S} {R : ip_R} {L : ip_S} {Q : Option Value → Nat → ip_S → ip_R → ip_S → Prop} {a0 : Nat} : ip_wc (d + 1) 43 [.ref a0] n S R L Q = ip_wp d 43 0 [some (.ref a0)] [] n S R L Q := ip_wcE ml43 (Nat.le_of_ble_eq_true rfl) rfl
theorem na44 : ip_na 44 = 4 := by decide +kernel
theorem rc44 : ip_rc 44 = 10 + 0 := by decide +kernel
theorem rk44 : ip_rk 44 = 0 := by decide +kernel
theorem ml44 : ip_ml 44 = 4 := by decide +kernel
theorem c44 {d : Nat} {n : Nat} {S : ip_S} {R : ip_R} {L : ip_S} {Q : Option Value → Nat → ip_S → ip_R → ip_S → Prop} {a0 : Nat} {a1 : Int32} {a2 : Int32} {a3 : Int32} : ip_wc (d + 1) 44 [.ref a0, .int a1, .int a2, .int a3] n S R L Q = ip_wp d 44 0 [some (.ref a0), some (.int a1), some (.int a2), some (.int a3)] [] n S R L Q := ip_wcE ml44 (Nat.le_of_ble_eq_true rfl) rfl
theorem na45 : ip_na 45 = 2 := by decide +kernel
theorem rc45 : ip_rc 45 = 0 := by decide +kernel
theorem rk45 : ip_rk 45 = 1 := by decide +kernel
theorem ml45 : ip_ml 45 = 2 := by decide +kernel
theorem c45 {d : Nat} {n : Nat} {S : ip_S} {R : ip_R} {L : ip_S} {Q : Option Value → Nat → ip_S → ip_R → ip_S → Prop} {a0 : Int32} {a1 : Int32} : ip_wc (d + 1) 45 [.int a0, .int a1] n S R L Q = ip_wp d 45 0 [some (.int a0), some (.int a1)] [] n S R L Q := ip_wcE ml45 (Nat.le_of_ble_eq_true rfl) rfl
theorem na46 : ip_na 46 = 3 := by decide +kernel
theorem rc46 : ip_rc 46 = 0 := by decide +kernel
theorem rk46 : ip_rk 46 = 0 := by decide +kernel
theorem ml46 : ip_ml 46 = 4 := by decide +kernel
theorem c46 {d : Nat} {n : Nat} {S : ip_S} {R : ip_R} {L : ip_S} {Q : Option Value → Nat → ip_S → ip_R → ip_S → Prop} {a0 : Nat} {a1 : Int32} {a2 : Int32} : ip_wc (d + 1) 46 [.ref a0, .int a1, .int a2] n S R L Q = ip_wp d 46 0 [some (.ref a0), some (.int a1), some (.int a2), none] [] n S R L Q := ip_wcE ml46 (Nat.le_of_ble_eq_true rfl) rfl
theorem na47 : ip_na 47 = 2 := by decide +kernel
theorem rc47 : ip_rc 47 = 10 + 1 := by decide +kernel
theorem rk47 : ip_rk 47 = 1 := by decide +kernel
theorem ml47 : ip_ml 47 = 2 := by decide +kernel
theorem c47 {d : Nat} {n : Nat} {S : ip_S} {R : ip_R} {L : ip_S} {Q : Option Value → Nat → ip_S → ip_R → ip_S → Prop} {a0 : Nat} {a1 : Int32} : ip_wc (d + 1) 47 [.ref a0, .int a1] n S R L Q = ip_wp d 47 0 [some (.ref a0), some (.int a1)] [] n S R L Q := ip_wcE ml47 (Nat.le_of_ble_eq_true rfl) rfl
theorem na48 : ip_na 48 = 4 := by decide +kernel
theorem rc48 : ip_rc 48 = 10 + 0 := by decide +kernel
theorem rk48 : ip_rk 48 = 0 := by decide +kernel
theorem ml48 : ip_ml 48 = 5 := by decide +kernel
theorem c48 {d : Nat} {n : Nat} {S : ip_S} {R : ip_R} {L : ip_S} {Q : Option Value → Nat → ip_S → ip_R → ip_S → Prop} {a0 : Nat} {a1 : Int32} {a2 : Int32} {a3 : Int32} : ip_wc (d + 1) 48 [.ref a0, .int a1, .int a2, .int a3] n S R L Q = ip_wp d 48 0 [some (.ref a0), some (.int a1), some (.int a2), some (.int a3), none] [] n S R L Q := ip_wcE ml48 (Nat.le_of_ble_eq_true rfl) rfl
theorem na49 : ip_na 49 = 3 := by decide +kernel
theorem rc49 : ip_rc 49 = 10 + 1 := by decide +kernel
theorem rk49 : ip_rk 49 = 0 := by decide +kernel
theorem ml49 : ip_ml 49 = 3 := by decide +kernel
theorem c49 {d : Nat} {n : Nat} {S : ip_S} {R : ip_R} {L : ip_S} {Q : Option Value → Nat → ip_S → ip_R → ip_S → Prop} {a0 : Nat} {a1 : Int32} {a2 : Int32} : ip_wc (d + 1) 49 [.ref a0, .int a1, .int a2] n S R L Q = ip_wp d 49 0 [some (.ref a0), some (.int a1), some (.int a2)] [] n S R L Q := ip_wcE ml49 (Nat.le_of_ble_eq_true rfl) rfl
theorem na50 : ip_na 50 = 4 := by decide +kernel
theorem rc50 : ip_rc 50 = 10 + 1 := by decide +kernel
theorem rk50 : ip_rk 50 = 9 := by decide +kernel
theorem ml50 : ip_ml 50 = 4 := by decide +kernel
theorem c50 {d : Nat} {n : Nat} {S : ip_S} {R : ip_R} {L : ip_S} {Q : Option Value → Nat → ip_S → ip_R → ip_S → Prop} {a0 : Nat} {a1 : Int32} {a2 : Int32} {a3 : Int32} : ip_wc (d + 1) 50 [.ref a0, .int a1, .int a2, .int a3] n S R L Q = ip_wp d 50 0 [some (.ref a0), some (.int a1), some (.int a2), some (.int a3)] [] n S R L Q := ip_wcE ml50 (Nat.le_of_ble_eq_true rfl) rfl
theorem na51 : ip_na 51 = 4 := by decide +kernel
theorem rc51 : ip_rc 51 = 10 + 0 := by decide +kernel
theorem rk51 : ip_rk 51 = 0 := by decide +kernel
theorem ml51 : ip_ml 51 = 4 := by decide +kernel
theorem c51 {d : Nat} {n : Nat} {S : ip_S} {R : ip_R} {L : ip_S} {Q : Option Value → Nat → ip_S → ip_R → ip_S → Prop} {a0 : Nat} {a1 : Int32} {a2 : Int32} {a3 : Int32} : ip_wc (d + 1) 51 [.ref a0, .int a1, .int a2, .int a3] n S R L Q = ip_wp d 51 0 [some (.ref a0), some (.int a1), some (.int a2), some (.int a3)] [] n S R L Q := ip_wcE ml51 (Nat.le_of_ble_eq_true rfl) rfl
theorem na52 : ip_na 52 = 4 := by decide +kernel
theorem rc52 : ip_rc 52 = 10 + 1 := by decide +kernel
theorem rk52 : ip_rk 52 = 0 := by decide +kernel
theorem ml52 : ip_ml 52 = 5 := by decide +kernel
theorem c52 {d : Nat} {n : Nat} {S : ip_S} {R : ip_R} {L : ip_S} {Q : Option Value → Nat → ip_S → ip_R → ip_S → Prop} {a0 : Nat} {a1 : Int32} {a2 : Int32} {a3 : Int32} : ip_wc (d + 1) 52 [.ref a0, .int a1, .int a2, .int a3] n S R L Q = ip_wp d 52 0 [some (.ref a0), some (.int a1), some (.int a2), some (.int a3), none] [] n S R L Q := ip_wcE ml52 (Nat.le_of_ble_eq_true rfl) rfl
theorem na53 : ip_na 53 = 3 := by decide +kernel
theorem rc53 : ip_rc 53 = 10 + 0 := by decide +kernel
theorem rk53 : ip_rk 53 = 0 := by decide +kernel
theorem ml53 : ip_ml 53 = 3 := by decide +kernel
theorem c53 {d : Nat} {n : Nat} {S : ip_S} {R : ip_R} {L : ip_S} {Q : Option Value → Nat → ip_S → ip_R → ip_S → Prop} {a0 : Nat} {a1 : Int32} {a2 : Int32} : ip_wc (d + 1) 53 [.ref a0, .int a1, .int a2] n S R L Q = ip_wp d 53 0 [some (.ref a0), some (.int a1), some (.int a2)] [] n S R L Q := ip_wcE ml53 (Nat.le_of_ble_eq_true rfl) rfl
theorem na54 : ip_na 54 = 2 := by decide +kernel
theorem rc54 : ip_rc 54 = 10 + 0 := by decide +kernel
theorem rk54 : ip_rk 54 = 0 := by decide +kernel
theorem ml54 : ip_ml 54 = 4 := by decide +kernel
theorem c54 {d : Nat} {n : Nat} {S : ip_S} {R : ip_R} {L : ip_S} {Q : Option Value → Nat → ip_S → ip_R → ip_S → Prop} {a0 : Nat} {a1 : Int32} : ip_wc (d + 1) 54 [.ref a0, .int a1] n S R L Q = ip_wp d 54 0 [some (.ref a0), some (.int a1), none, none] [] n S R L Q := ip_wcE ml54 (Nat.le_of_ble_eq_true rfl) rfl
theorem na55 : ip_na 55 = 3 := by decide +kernel
theorem rc55 : ip_rc 55 = 10 + 0 := by decide +kernel
theorem rk55 : ip_rk 55 = 1 := by decide +kernel
theorem ml55 : ip_ml 55 = 4 := by decide +kernel
theorem c55 {d : Nat} {n : Nat} {S : ip_S} {R : ip_R} {L : ip_S} {Q : Option Value → Nat → ip_S → ip_R → ip_S → Prop} {a0 : Nat} {a1 : Int32} {a2 : Int32} : ip_wc (d + 1) 55 [.ref a0, .int a1, .int a2] n S R L Q = ip_wp d 55 0 [some (.ref a0), some (.int a1), some (.int a2), none] [] n S R L Q := ip_wcE ml55 (Nat.le_of_ble_eq_true rfl) rfl
theorem na56 : ip_na 56 = 5 := by decide +kernel
theorem rc56 : ip_rc 56 = 10 + 6 := by decide +kernel
theorem rk56 : ip_rk 56 = 9 := by decide +kernel
theorem ml56 : ip_ml 56 = 5 := by decide +kernel
theorem c56 {d : Nat} {n : Nat} {S : ip_S} {R : ip_R} {L : ip_S} {Q : Option Value → Nat → ip_S → ip_R → ip_S → Prop} {a0 : Nat} {a1 : Int32} {a2 : Int32} {a3 : Int32} {a4 : Int32} : ip_wc (d + 1) 56 [.ref a0, .int a1, .int a2, .int a3, .int a4] n S R L Q = ip_wp d 56 0 [some (.ref a0), some (.int a1), some (.int a2), some (.int a3), some (.int a4)] [] n S R L Q := ip_wcE ml56 (Nat.le_of_ble_eq_true rfl) rfl
theorem na57 : ip_na 57 = 3 := by decide +kernel
theorem rc57 : ip_rc 57 = 10 + 6 := by decide +kernel
theorem rk57 : ip_rk 57 = 9 := by decide +kernel
theorem ml57 : ip_ml 57 = 7 := by decide +kernel
theorem c57 {d : Nat} {n : Nat} {S : ip_S} {R : ip_R} {L : ip_S} {Q : Option Value → Nat → ip_S → ip_R → ip_S → Prop} {a0 : Nat} {a1 : Nat} {a2 : Int32} : ip_wc (d + 1) 57 [.ref a0, .ref a1, .int a2] n S R L Q = ip_wp d 57 0 [some (.ref a0), some (.ref a1), some (.int a2), none, none, none, none] [] n S R L Q := ip_wcE ml57 (Nat.le_of_ble_eq_true rfl) rfl
theorem na58 : ip_na 58 = 4 := by decide +kernel
theorem rc58 : ip_rc 58 = 10 + 5 := by decide +kernel
theorem rk58 : ip_rk 58 = 0 := by decide +kernel
theorem ml58 : ip_ml 58 = 8 := by decide +kernel
theorem c58 {d : Nat} {n : Nat} {S : ip_S} {R : ip_R} {L : ip_S} {Q : Option Value → Nat → ip_S → ip_R → ip_S → Prop} {a0 : Nat} {a1 : Int32} {a2 : Nat} {a3 : Nat} : ip_wc (d + 1) 58 [.ref a0, .int a1, .ref a2, .ref a3] n S R L Q = ip_wp d 58 0 [some (.ref a0), some (.int a1), some (.ref a2), some (.ref a3), none, none, none, none] [] n S R L Q := ip_wcE ml58 (Nat.le_of_ble_eq_true rfl) rfl
theorem na59 : ip_na 59 = 3 := by decide +kernel
theorem rc59 : ip_rc 59 = 0 := by decide +kernel
theorem rk59 : ip_rk 59 = 0 := by decide +kernel
theorem ml59 : ip_ml 59 = 3 := by decide +kernel
theorem c59 {d : Nat} {n : Nat} {S : ip_S} {R : ip_R} {L : ip_S} {Q : Option Value → Nat → ip_S → ip_R → ip_S → Prop} {a0 : Int32} {a1 : Int32} {a2 : Int32} : ip_wc (d + 1) 59 [.int a0, .int a1, .int a2] n S R L Q = ip_wp d 59 0 [some (.int a0), some (.int a1), some (.int a2)] [] n S R L Q := ip_wcE ml59 (Nat.le_of_ble_eq_true rfl) rfl
theorem na60 : ip_na 60 = 2 := by decide +kernel
theorem rc60 : ip_rc 60 = 0 := by decide +kernel
theorem rk60 : ip_rk 60 = 0 := by decide +kernel
theorem ml60 : ip_ml 60 = 2 := by decide +kernel
theorem c60 {d : Nat} {n : Nat} {S : ip_S} {R : ip_R} {L : ip_S} {Q : Option Value → Nat → ip_S → ip_R → ip_S → Prop} {a0 : Int32} {a1 : Int32} : ip_wc (d + 1) 60 [.int a0, .int a1] n S R L Q = ip_wp d 60 0 [some (.int a0), some (.int a1)] [] n S R L Q := ip_wcE ml60 (Nat.le_of_ble_eq_true rfl) rfl
theorem na61 : ip_na 61 = 1 := by decide +kernel
theorem rc61 : ip_rc 61 = 10 + 6 := by decide +kernel
theorem rk61 : ip_rk 61 = 0 := by decide +kernel
theorem ml61 : ip_ml 61 = 1 := by decide +kernel
theorem c61 {d : Nat} {n : Nat} {S : ip_S} {R : ip_R} {L : ip_S} {Q : Option Value → Nat → ip_S → ip_R → ip_S → Prop} {a0 : Nat} : ip_wc (d + 1) 61 [.ref a0] n S R L Q = ip_wp d 61 0 [some (.ref a0)] [] n S R L Q := ip_wcE ml61 (Nat.le_of_ble_eq_true rfl) rfl
theorem na62 : ip_na 62 = 2 := by decide +kernel
theorem rc62 : ip_rc 62 = 10 + 6 := by decide +kernel
theorem rk62 : ip_rk 62 = 0 := by decide +kernel
theorem ml62 : ip_ml 62 = 4 := by decide +kernel
theorem c62 {d : Nat} {n : Nat} {S : ip_S} {R : ip_R} {L : ip_S} {Q : Option Value → Nat → ip_S → ip_R → ip_S → Prop} {a0 : Nat} {a1 : Int32} : ip_wc (d + 1) 62 [.ref a0, .int a1] n S R L Q = ip_wp d 62 0 [some (.ref a0), some (.int a1), none, none] [] n S R L Q := ip_wcE ml62 (Nat.le_of_ble_eq_true rfl) rfl
theorem na63 : ip_na 63 = 1 := by decide +kernel
theorem rc63 : ip_rc 63 = 0 := by decide +kernel
theorem rk63 : ip_rk 63 = 0 := by decide +kernel
theorem ml63 : ip_ml 63 = 1 := by decide +kernel
theorem c63 {d : Nat} {n : Nat} {S : ip_S} {R : ip_R} {L : ip_S} {Q : Option Value → Nat → ip_S → ip_R → ip_S → Prop} {a0 : Int32} : ip_wc (d + 1) 63 [.int a0] n S R L Q = ip_wp d 63 0 [some (.int a0)] [] n S R L Q := ip_wcE ml63 (Nat.le_of_ble_eq_true rfl) rfl
theorem na64 : ip_na 64 = 5 := by decide +kernel
theorem rc64 : ip_rc 64 = 0 := by decide +kernel
theorem rk64 : ip_rk 64 = 0 := by decide +kernel
theorem ml64 : ip_ml 64 = 6 := by decide +kernel
theorem c64 {d : Nat} {n : Nat} {S : ip_S} {R : ip_R} {L : ip_S} {Q : Option Value → Nat → ip_S → ip_R → ip_S → Prop} {a0 : Int32} {a1 : Int32} {a2 : Int32} {a3 : Int32} {a4 : Int32} : ip_wc (d + 1) 64 [.int a0, .int a1, .int a2, .int a3, .int a4] n S R L Q = ip_wp d 64 0 [some (.int a0), some (.int a1), some (.int a2), some (.int a3), some (.int a4), none] [] n S R L Q := ip_wcE ml64 (Nat.le_of_ble_eq_true rfl) rfl
theorem na65 : ip_na 65 = 2 := by decide +kernel
theorem rc65 : ip_rc 65 = 10 + 6 := by decide +kernel
theorem rk65 : ip_rk 65 = 0 := by decide +kernel
theorem ml65 : ip_ml 65 = 4 := by decide +kernel
theorem c65 {d : Nat} {n : Nat} {S : ip_S} {R : ip_R} {L : ip_S} {Q : Option Value → Nat → ip_S → ip_R → ip_S → Prop} {a0 : Nat} {a1 : Int32} : ip_wc (d + 1) 65 [.ref a0, .int a1] n S R L Q = ip_wp d 65 0 [some (.ref a0), some (.int a1), none, none] [] n S R L Q := ip_wcE ml65 (Nat.le_of_ble_eq_true rfl) rfl
theorem na66 : ip_na 66 = 3 := by decide +kernel
theorem rc66 : ip_rc 66 = 0 := by decide +kernel
theorem rk66 : ip_rk 66 = 0 := by decide +kernel
theorem ml66 : ip_ml 66 = 3 := by decide +kernel
theorem c66 {d : Nat} {n : Nat} {S : ip_S} {R : ip_R} {L : ip_S} {Q : Option Value → Nat → ip_S → ip_R → ip_S → Prop} {a0 : Int32} {a1 : Int32} {a2 : Int32} : ip_wc (d + 1) 66 [.int a0, .int a1, .int a2] n S R L Q = ip_wp d 66 0 [some (.int a0), some (.int a1), some (.int a2)] [] n S R L Q := ip_wcE ml66 (Nat.le_of_ble_eq_true rfl) rfl
theorem na67 : ip_na 67 = 6 := by decide +kernel
theorem rc67 : ip_rc 67 = 10 + 0 := by decide +kernel
theorem rk67 : ip_rk 67 = 0 := by decide +kernel
theorem ml67 : ip_ml 67 = 6 := by decide +kernel
theorem c67 {d : Nat} {n : Nat} {S : ip_S} {R : ip_R} {L : ip_S} {Q : Option Value → Nat → ip_S → ip_R → ip_S → Prop} {a0 : Nat} {a1 : Int32} {a2 : Int32} {a3 : Int32} {a4 : Int32} {a5 : Int32} : ip_wc (d + 1) 67 [.ref a0, .int a1, .int a2, .int a3, .int a4, .int a5] n S R L Q = ip_wp d 67 0 [some (.ref a0), some (.int a1), some (.int a2), some (.int a3), some (.int a4), some (.int a5)] [] n S R L Q := ip_wcE ml67 (Nat.le_of_ble_eq_true rfl) rfl
theorem na68 : ip_na 68 = 3 := by decide +kernel
theorem rc68 : ip_rc 68 = 10 + 0 := by decide +kernel
theorem rk68 : ip_rk 68 = 1 := by decide +kernel
theorem ml68 : ip_ml 68 = 3 := by decide +kernel
theorem c68 {d : Nat} {n : Nat} {S : ip_S} {R : ip_R} {L : ip_S} {Q : Option Value → Nat → ip_S → ip_R → ip_S → Prop} {a0 : Nat} {a1 : Int32} {a2 : Int32} : ip_wc (d + 1) 68 [.ref a0, .int a1, .int a2] n S R L Q = ip_wp d 68 0 [some (.ref a0), some (.int a1), some (.int a2)] [] n S R L Q := ip_wcE ml68 (Nat.le_of_ble_eq_true rfl) rfl
theorem na69 : ip_na 69 = 2 := by decide +kernel
theorem rc69 : ip_rc 69 = 10 + 6 := by decide +kernel
theorem rk69 : ip_rk 69 = 1 := by decide +kernel
theorem ml69 : ip_ml 69 = 4 := by decide +kernel
theorem c69 {d : Nat} {n : Nat} {S : ip_S} {R : ip_R} {L : ip_S} {Q : Option Value → Nat → ip_S → ip_R → ip_S → Prop} {a0 : Nat} {a1 : Int32} : ip_wc (d + 1) 69 [.ref a0, .int a1] n S R L Q = ip_wp d 69 0 [some (.ref a0), some (.int a1), none, none] [] n S R L Q := ip_wcE ml69 (Nat.le_of_ble_eq_true rfl) rfl
theorem na70 : ip_na 70 = 4 := by decide +kernel
theorem rc70 : ip_rc 70 = 0 := by decide +kernel
theorem rk70 : ip_rk 70 = 1 := by decide +kernel
theorem ml70 : ip_ml 70 = 4 := by decide +kernel
theorem c70 {d : Nat} {n : Nat} {S : ip_S} {R : ip_R} {L : ip_S} {Q : Option Value → Nat → ip_S → ip_R → ip_S → Prop} {a0 : Int32} {a1 : Int32} {a2 : Int32} {a3 : Int32} : ip_wc (d + 1) 70 [.int a0, .int a1, .int a2, .int a3] n S R L Q = ip_wp d 70 0 [some (.int a0), some (.int a1), some (.int a2), some (.int a3)] [] n S R L Q := ip_wcE ml70 (Nat.le_of_ble_eq_true rfl) rfl
theorem na71 : ip_na 71 = 2 := by decide +kernel
theorem rc71 : ip_rc 71 = 10 + 0 := by decide +kernel
theorem rk71 : ip_rk 71 = 0 := by decide +kernel
theorem ml71 : ip_ml 71 = 2 := by decide +kernel
theorem c71 {d : Nat} {n : Nat} {S : ip_S} {R : ip_R} {L : ip_S} {Q : Option Value → Nat → ip_S → ip_R → ip_S → Prop} {a0 : Nat} {a1 : Int32} : ip_wc (d + 1) 71 [.ref a0, .int a1] n S R L Q = ip_wp d 71 0 [some (.ref a0), some (.int a1)] [] n S R L Q := ip_wcE ml71 (Nat.le_of_ble_eq_true rfl) rfl
theorem na72 : ip_na 72 = 1 := by decide +kernel
theorem rc72 : ip_rc 72 = 10 + 0 := by decide +kernel
theorem rk72 : ip_rk 72 = 0 := by decide +kernel
theorem ml72 : ip_ml 72 = 1 := by decide +kernel
theorem c72 {d : Nat} {n : Nat} {S : ip_S} {R : ip_R} {L : ip_S} {Q : Option Value → Nat → ip_S → ip_R → ip_S → Prop} {a0 : Nat} : ip_wc (d + 1) 72 [.ref a0] n S R L Q = ip_wp d 72 0 [some (.ref a0)] [] n S R L Q := ip_wcE ml72 (Nat.le_of_ble_eq_true rfl) rfl
theorem na73 : ip_na 73 = 2 := by decide +kernel
theorem rc73 : ip_rc 73 = 10 + 0 := by decide +kernel
theorem rk73 : ip_rk 73 = 0 := by decide +kernel
theorem ml73 : ip_ml 73 = 2 := by decide +kernel
theorem c73 {d : Nat} {n : Nat} {S : ip_S} {R : ip_R} {L : ip_S} {Q : Option Value → Nat → ip_S → ip_R → ip_S → Prop} {a0 : Nat} {a1 : Int32} : ip_wc (d + 1) 73 [.ref a0, .int a1] n S R L Q = ip_wp d 73 0 [some (.ref a0), some (.int a1)] [] n S R L Q := ip_wcE ml73 (Nat.le_of_ble_eq_true rfl) rfl
theorem na74 : ip_na 74 = 5 := by decide +kernel
theorem rc74 : ip_rc 74 = 10 + 0 := by decide +kernel
theorem rk74 : ip_rk 74 = 0 := by decide +kernel
theorem ml74 : ip_ml 74 = 6 := by decide +kernel
theorem c74 {d : Nat} {n : Nat} {S : ip_S} {R : ip_R} {L : ip_S} {Q : Option Value → Nat → ip_S → ip_R → ip_S → Prop} {a0 : Nat} {a1 : Int32} {a2 : Int32} {a3 : Int32} {a4 : Int32} : ip_wc (d + 1) 74 [.ref a0, .int a1, .int a2, .int a3, .int a4] n S R L Q = ip_wp d 74 0 [some (.ref a0), some (.int a1), some (.int a2), some (.int a3), some (.int a4), none] [] n S R L Q := ip_wcE ml74 (Nat.le_of_ble_eq_true rfl) rfl
theorem na75 : ip_na 75 = 4 := by decide +kernel
theorem rc75 : ip_rc 75 = 10 + 6 := by decide +kernel
theorem rk75 : ip_rk 75 = 0 := by decide +kernel
theorem ml75 : ip_ml 75 = 8 := by decide +kernel
theorem c75 {d : Nat} {n : Nat} {S : ip_S} {R : ip_R} {L : ip_S} {Q : Option Value → Nat → ip_S → ip_R → ip_S → Prop} {a0 : Nat} {a1 : Int32} {a2 : Int32} {a3 : Int32} : ip_wc (d + 1) 75 [.ref a0, .int a1, .int a2, .int a3] n S R L Q = ip_wp d 75 0 [some (.ref a0), some (.int a1), some (.int a2), some (.int a3), none, none, none, none] [] n S R L Q := ip_wcE ml75 (Nat.le_of_ble_eq_true rfl) rfl
theorem na76 : ip_na 76 = 2 := by decide +kernel
theorem rc76 : ip_rc 76 = 10 + 6 := by decide +kernel
theorem rk76 : ip_rk 76 = 1 := by decide +kernel
theorem ml76 : ip_ml 76 = 2 := by decide +kernel
theorem c76 {d : Nat} {n : Nat} {S : ip_S} {R : ip_R} {L : ip_S} {Q : Option Value → Nat → ip_S → ip_R → ip_S → Prop} {a0 : Nat} {a1 : Int32} : ip_wc (d + 1) 76 [.ref a0, .int a1] n S R L Q = ip_wp d 76 0 [some (.ref a0), some (.int a1)] [] n S R L Q := ip_wcE ml76 (Nat.le_of_ble_eq_true rfl) rfl
theorem na77 : ip_na 77 = 3 := by decide +kernel
theorem rc77 : ip_rc 77 = 10 + 1 := by decide +kernel
theorem rk77 : ip_rk 77 = 0 := by decide +kernel
theorem ml77 : ip_ml 77 = 7 := by decide +kernel
theorem c77 {d : Nat} {n : Nat} {S : ip_S} {R : ip_R} {L : ip_S} {Q : Option Value → Nat → ip_S → ip_R → ip_S → Prop} {a0 : Nat} {a1 : Int32} {a2 : Int32} : ip_wc (d + 1) 77 [.ref a0, .int a1, .int a2] n S R L Q = ip_wp d 77 0 [some (.ref a0), some (.int a1), some (.int a2), none, none, none, none] [] n S R L Q := ip_wcE ml77 (Nat.le_of_ble_eq_true rfl) rfl
theorem na78 : ip_na 78 = 1 := by decide +kernel
theorem rc78 : ip_rc 78 = 10 + 6 := by decide +kernel
theorem rk78 : ip_rk 78 = 0 := by decide +kernel
theorem ml78 : ip_ml 78 = 3 := by decide +kernel
theorem c78 {d : Nat} {n : Nat} {S : ip_S} {R : ip_R} {L : ip_S} {Q : Option Value → Nat → ip_S → ip_R → ip_S → Prop} {a0 : Nat} : ip_wc (d + 1) 78 [.ref a0] n S R L Q = ip_wp d 78 0 [some (.ref a0), none, none] [] n S R L Q := ip_wcE ml78 (Nat.le_of_ble_eq_true rfl) rfl
theorem na79 : ip_na 79 = 1 := by decide +kernel
theorem rc79 : ip_rc 79 = 0 := by decide +kernel
theorem rk79 : ip_rk 79 = 0 := by decide +kernel
theorem ml79 : ip_ml 79 = 1 := by decide +kernel
theorem c79 {d : Nat} {n : Nat} {S : ip_S} {R : ip_R} {L : ip_S} {Q : Option Value → Nat → ip_S → ip_R → ip_S → Prop} {a0 : Int32} : ip_wc (d + 1) 79 [.int a0] n S R L Q = ip_wp d 79 0 [some (.int a0)] [] n S R L Q := ip_wcE ml79 (Nat.le_of_ble_eq_true rfl) rfl
theorem na80 : ip_na 80 = 2 := by decide +kernel
theorem rc80 : ip_rc 80 = 10 + 6 := by decide +kernel
theorem rk80 : ip_rk 80 = 0 := by decide +kernel
theorem ml80 : ip_ml 80 = 2 := by decide +kernel
theorem c80 {d : Nat} {n : Nat} {S : ip_S} {R : ip_R} {L : ip_S} {Q : Option Value → Nat → ip_S → ip_R → ip_S → Prop} {a0 : Nat} {a1 : Int32} : ip_wc (d + 1) 80 [.ref a0, .int a1] n S R L Q = ip_wp d 80 0 [some (.ref a0), some (.int a1)] [] n S R L Q := ip_wcE ml80 (Nat.le_of_ble_eq_true rfl) rfl
theorem na81 : ip_na 81 = 4 := by decide +kernel
theorem rc81 : ip_rc 81 = 10 + 0 := by decide +kernel
theorem rk81 : ip_rk 81 = 0 := by decide +kernel
theorem ml81 : ip_ml 81 = 4 := by decide +kernel
theorem c81 {d : Nat} {n : Nat} {S : ip_S} {R : ip_R} {L : ip_S} {Q : Option Value → Nat → ip_S → ip_R → ip_S → Prop} {a0 : Nat} {a1 : Int32} {a2 : Int32} {a3 : Int32} : ip_wc (d + 1) 81 [.ref a0, .int a1, .int a2, .int a3] n S R L Q = ip_wp d 81 0 [some (.ref a0), some (.int a1), some (.int a2), some (.int a3)] [] n S R L Q := ip_wcE ml81 (Nat.le_of_ble_eq_true rfl) rfl
theorem na82 : ip_na 82 = 4 := by decide +kernel
theorem rc82 : ip_rc 82 = 10 + 0 := by decide +kernel
theorem rk82 : ip_rk 82 = 0 := by decide +kernel
theorem ml82 : ip_ml 82 = 5 := by decide +kernel
theorem c82 {d : Nat} {n : Nat} {S : ip_S} {R : ip_R} {L : ip_S} {Q : Option Value → Nat → ip_S → ip_R → ip_S → Prop} {a0 : Nat} {a1 : Int32} {a2 : Int32} {a3 : Int32} : ip_wc (d + 1) 82 [.ref a0, .int a1, .int a2, .int a3] n S R L Q = ip_wp d 82 0 [some (.ref a0), some (.int a1), some (.int a2), some (.int a3), none] [] n S R L Q := ip_wcE ml82 (Nat.le_of_ble_eq_true rfl) rfl
theorem na83 : ip_na 83 = 3 := by decide +kernel
theorem rc83 : ip_rc 83 = 10 + 1 := by decide +kernel
theorem rk83 : ip_rk 83 = 9 := by decide +kernel
theorem ml83 : ip_ml 83 = 3 := by decide +kernel
theorem c83 {d : Nat} {n : Nat} {S : ip_S} {R : ip_R} {L : ip_S} {Q : Option Value → Nat → ip_S → ip_R → ip_S → Prop} {a0 : Nat} {a1 : Int32} {a2 : Int32} : ip_wc (d + 1) 83 [.ref a0, .int a1, .int a2] n S R L Q = ip_wp d 83 0 [some (.ref a0), some (.int a1), some (.int a2)] [] n S R L Q := ip_wcE ml83 (Nat.le_of_ble_eq_true rfl) rfl
theorem na84 : ip_na 84 = 3 := by decide +kernel
theorem rc84 : ip_rc 84 = 10 + 0 := by decide +kernel
theorem rk84 : ip_rk 84 = 0 := by decide +kernel
theorem ml84 : ip_ml 84 = 4 := by decide +kernel
theorem c84 {d : Nat} {n : Nat} {S : ip_S} {R : ip_R} {L : ip_S} {Q : Option Value → Nat → ip_S → ip_R → ip_S → Prop} {a0 : Nat} {a1 : Int32} {a2 : Int32} : ip_wc (d + 1) 84 [.ref a0, .int a1, .int a2] n S R L Q = ip_wp d 84 0 [some (.ref a0), some (.int a1), some (.int a2), none] [] n S R L Q := ip_wcE ml84 (Nat.le_of_ble_eq_true rfl) rfl
theorem na85 : ip_na 85 = 4 := by decide +kernel
theorem rc85 : ip_rc 85 = 10 + 0 := by decide +kernel
theorem rk85 : ip_rk 85 = 0 := by decide +kernel
theorem ml85 : ip_ml 85 = 5 := by decide +kernel
theorem c85 {d : Nat} {n : Nat} {S : ip_S} {R : ip_R} {L : ip_S} {Q : Option Value → Nat → ip_S → ip_R → ip_S → Prop} {a0 : Nat} {a1 : Int32} {a2 : Int32} {a3 : Int32} : ip_wc (d + 1) 85 [.ref a0, .int a1, .int a2, .int a3] n S R L Q = ip_wp d 85 0 [some (.ref a0), some (.int a1), some (.int a2), some (.int a3), none] [] n S R L Q := ip_wcE ml85 (Nat.le_of_ble_eq_true rfl) rfl
theorem na86 : ip_na 86 = 3 := by decide +kernel
theorem rc86 : ip_rc 86 = 10 + 0 := by decide +kernel
theorem rk86 : ip_rk 86 = 0 := by decide +kernel
theorem ml86 : ip_ml 86 = 6 := by decide +kernel
theorem c86 {d : Nat} {n : Nat} {S : ip_S} {R : ip_R} {L : ip_S} {Q : Option Value → Nat → ip_S → ip_R → ip_S → Prop} {a0 : Nat} {a1 : Int32} {a2 : Int32} : ip_wc (d + 1) 86 [.ref a0, .int a1, .int a2] n S R L Q = ip_wp d 86 0 [some (.ref a0), some (.int a1), some (.int a2), none, none, none] [] n S R L Q := ip_wcE ml86 (Nat.le_of_ble_eq_true rfl) rfl
theorem na87 : ip_na 87 = 4 := by decide +kernel
theorem rc87 : ip_rc 87 = 10 + 0 := by decide +kernel
theorem rk87 : ip_rk 87 = 1 := by decide +kernel
theorem ml87 : ip_ml 87 = 4 := by decide +kernel
theorem c87 {d : Nat} {n : Nat} {S : ip_S} {R : ip_R} {L : ip_S} {Q : Option Value → Nat → ip_S → ip_R → ip_S → Prop} {a0 : Nat} {a1 : Int32} {a2 : Int32} {a3 : Int32} : ip_wc (d + 1) 87 [.ref a0, .int a1, .int a2, .int a3] n S R L Q = ip_wp d 87 0 [some (.ref a0), some (.int a1), some (.int a2), some (.int a3)] [] n S R L Q := ip_wcE ml87 (Nat.le_of_ble_eq_true rfl) rfl
theorem na88 : ip_na 88 = 3 := by decide +kernel
theorem rc88 : ip_rc 88 = 10 + 0 := by decide +kernel
theorem rk88 : ip_rk 88 = 0 := by decide +kernel
theorem ml88 : ip_ml 88 = 5 := by decide +kernel
theorem c88 {d : Nat} {n : Nat} {S : ip_S} {R : ip_R} {L : ip_S} {Q : Option Value → Nat → ip_S → ip_R → ip_S → Prop} {a0 : Nat} {a1 : Int32} {a2 : Int32} : ip_wc (d + 1) 88 [.ref a0, .int a1, .int a2] n S R L Q = ip_wp d 88 0 [some (.ref a0), some (.int a1), some (.int a2), none, none] [] n S R L Q := ip_wcE ml88 (Nat.le_of_ble_eq_true rfl) rfl
theorem na89 : ip_na 89 = 3 := by decide +kernel
theorem rc89 : ip_rc 89 = 10 + 0 := by decide +kernel
theorem rk89 : ip_rk 89 = 0 := by decide +kernel
theorem ml89 : ip_ml 89 = 5 := by decide +kernel
theorem c89 {d : Nat} {n : Nat} {S : ip_S} {R : ip_R} {L : ip_S} {Q : Option Value → Nat → ip_S → ip_R → ip_S → Prop} {a0 : Nat} {a1 : Int32} {a2 : Int32} : ip_wc (d + 1) 89 [.ref a0, .int a1, .int a2] n S R L Q = ip_wp d 89 0 [some (.ref a0), some (.int a1), some (.int a2), none, none] [] n S R L Q := ip_wcE ml89 (Nat.le_of_ble_eq_true rfl) rfl
theorem na90 : ip_na 90 = 2 := by decide +kernel
theorem rc90 : ip_rc 90 = 10 + 0 := by decide +kernel
theorem rk90 : ip_rk 90 = 9 := by decide +kernel
theorem ml90 : ip_ml 90 = 4 := by decide +kernel
theorem c90 {d : Nat} {n : Nat} {S : ip_S} {R : ip_R} {L : ip_S} {Q : Option Value → Nat → ip_S → ip_R → ip_S → Prop} {a0 : Nat} {a1 : Int32} : ip_wc (d + 1) 90 [.ref a0, .int a1] n S R L Q = ip_wp d 90 0 [some (.ref a0), some (.int a1), none, none] [] n S R L Q := ip_wcE ml90 (Nat.le_of_ble_eq_true rfl) rfl
theorem na91 : ip_na 91 = 2 := by decide +kernel
theorem rc91 : ip_rc 91 = 10 + 0 := by decide +kernel
theorem rk91 : ip_rk 91 = 9 := by decide +kernel
theorem ml91 : ip_ml 91 = 6 := by decide +kernel
theorem c91 {d : Nat} {n : Nat} {S : ip_S} {R : ip_R} {L : ip_S} {Q : Option Value → Nat → ip_S → ip_R → ip_S → Prop} {a0 : Nat} {a1 : Int32} : ip_wc (d + 1) 91 [.ref a0, .int a1] n S R L Q = ip_wp d 91 0 [some (.ref a0), some (.int a1), none, none, none, none] [] n S R L Q := ip_wcE ml91 (Nat.le_of_ble_eq_true rfl) rfl
theorem na92 : ip_na 92 = 1 := by decide +kernel
theorem rc92 : ip_rc 92 = 0 := by decide +kernel
theorem rk92 : ip_rk 92 = 0 := by decide +kernel
theorem ml92 : ip_ml 92 = 2 := by decide +kernel
theorem c92 {d : Nat} {n : Nat} {S : ip_S} {R : ip_R} {L : ip_S} {Q : Option Value → Nat → ip_S → ip_R → ip_S → Prop} {a0 : Int32} : ip_wc (d + 1) 92 [.int a0] n S R L Q = ip_wp d 92 0 [some (.int a0), none] [] n S R L Q := ip_wcE ml92 (Nat.le_of_ble_eq_true rfl) rfl
theorem na93 : ip_na 93 = 5 := by decide +kernel
theorem rc93 : ip_rc 93 = 10 + 0 := by decide +kernel
theorem rk93 : ip_rk 93 = 9 := by decide +kernel
theorem ml93 : ip_ml 93 = 8 := by decide +kernel
theorem c93 {d : Nat} {n : Nat} {S : ip_S} {R : ip_R} {L : ip_S} {Q : Option Value → Nat → ip_S → ip_R → ip_S → Prop} {a0 : Nat} {a1 : Int32} {a2 : Int32} {a3 : Int32} {a4 : Int32} : ip_wc (d + 1) 93 [.ref a0, .int a1, .int a2, .int a3, .int a4] n S R L Q = ip_wp d 93 0 [some (.ref a0), some (.int a1), some (.int a2), some (.int a3), some (.int a4), none, none, none] [] n S R L Q := ip_wcE ml93 (Nat.le_of_ble_eq_true rfl) rfl
theorem na94 : ip_na 94 = 5 := by decide +kernel
theorem rc94 : ip_rc 94 = 10 + 0 := by decide +kernel
theorem rk94 : ip_rk 94 = 0 := by decide +kernel
theorem ml94 : ip_ml 94 = 10 := by decide +kernel
theorem c94 {d : Nat} {n : Nat} {S : ip_S} {R : ip_R} {L : ip_S} {Q : Option Value → Nat → ip_S → ip_R → ip_S → Prop} {a0 : Nat} {a1 : Int32} {a2 : Int32} {a3 : Int32} {a4 : Int32} : ip_wc (d + 1) 94 [.ref a0, .int a1, .int a2, .int a3, .int a4] n S R L Q = ip_wp d 94 0 [some (.ref a0), some (.int a1), some (.int a2), some (.int a3), some (.int a4), none, none, none, none, none] [] n S R L Q := ip_wcE ml94 (Nat.le_of_ble_eq_true rfl) rfl
theorem na95 : ip_na 95 = 5 := by decide +kernel
theorem rc95 : ip_rc 95 = 10 + 0 := by decide +kernel
theorem rk95 : ip_rk 95 = 0 := by decide +kernel
theorem ml95 : ip_ml 95 = 7 := by decide +kernel
theorem c95 {d : Nat} {n : Nat} {S : ip_S} {R : ip_R} {L : ip_S} {Q : Option Value → Nat → ip_S → ip_R → ip_S → Prop} {a0 : Nat} {a1 : Int32} {a2 : Int32} {a3 : Int32} {a4 : Int32} : ip_wc (d + 1) 95 [.ref a0, .int a1, .int a2, .int a3, .int a4] n S R L Q = ip_wp d 95 0 [some (.ref a0), some (.int a1), some (.int a2), some (.int a3), some (.int a4), none, none] [] n S R L Q := ip_wcE ml95 (Nat.le_of_ble_eq_true rfl) rfl
theorem na96 : ip_na 96 = 5 := by decide +kernel
theorem rc96 : ip_rc 96 = 10 + 0 := by decide +kernel
theorem rk96 : ip_rk 96 = 0 := by decide +kernel
theorem ml96 : ip_ml 96 = 7 := by decide +kernel
theorem c96 {d : Nat} {n : Nat} {S : ip_S} {R : ip_R} {L : ip_S} {Q : Option Value → Nat → ip_S → ip_R → ip_S → Prop} {a0 : Nat} {a1 : Int32} {a2 : Int32} {a3 : Int32} {a4 : Int32} : ip_wc (d + 1) 96 [.ref a0, .int a1, .int a2, .int a3, .int a4] n S R L Q = ip_wp d 96 0 [some (.ref a0), some (.int a1), some (.int a2), some (.int a3), some (.int a4), none, none] [] n S R L Q := ip_wcE ml96 (Nat.le_of_ble_eq_true rfl) rfl
theorem na97 : ip_na 97 = 2 := by decide +kernel
theorem rc97 : ip_rc 97 = 10 + 0 := by decide +kernel
theorem rk97 : ip_rk 97 = 1 := by decide +kernel
theorem ml97 : ip_ml 97 = 2 := by decide +kernel
theorem c97 {d : Nat} {n : Nat} {S : ip_S} {R : ip_R} {L : ip_S} {Q : Option Value → Nat → ip_S → ip_R → ip_S → Prop} {a0 : Nat} {a1 : Int32} : ip_wc (d + 1) 97 [.ref a0, .int a1] n S R L Q = ip_wp d 97 0 [some (.ref a0), some (.int a1)] [] n S R L Q := ip_wcE ml97 (Nat.le_of_ble_eq_true rfl) rfl
theorem na98 : ip_na 98 = 1 := by decide +kernel
theorem rc98 : ip_rc 98 = 10 + 7 := by decide +kernel
theorem rk98 : ip_rk 98 = 1 := by decide +kernel
theorem ml98 : ip_ml 98 = 1 := by decide +kernel
theorem c98 {d : Nat} {n : Nat} {S : ip_S} {R : ip_R} {L : ip_S} {Q : Option Value → Nat → ip_S → ip_R → ip_S → Prop} {a0 : Nat} : ip_wc (d + 1) 98 [.ref a0] n S R L Q = ip_wp d 98 0 [some (.ref a0)] [] n S R L Q := ip_wcE ml98 (Nat.le_of_ble_eq_true rfl) rfl
theorem na99 : ip_na 99 = 4 := by decide +kernel
theorem rc99 : ip_rc 99 = 10 + 0 := by decide +kernel
theorem rk99 : ip_rk 99 = 0 := by decide +kernel
theorem ml99 : ip_ml 99 = 5 := by decide +kernel
theorem c99 {d : Nat} {n : Nat} {S : ip_S} {R : ip_R} {L : ip_S} {Q : Option Value → Nat → ip_S → ip_R → ip_S → Prop} {a0 : Nat} {a1 : Nat} {a2 : Int32} {a3 : Int32} : ip_wc (d + 1) 99 [.ref a0, .ref a1, .int a2, .int a3] n S R L Q = ip_wp d 99 0 [some (.ref a0), some (.ref a1), some (.int a2), some (.int a3), none] [] n S R L Q := ip_wcE ml99 (Nat.le_of_ble_eq_true rfl) rfl
theorem na100 : ip_na 100 = 4 := by decide +kernel
theorem rc100 : ip_rc 100 = 10 + 0 := by decide +kernel
theorem rk100 : ip_rk 100 = 0 := by decide +kernel
theorem ml100 : ip_ml 100 = 6 := by decide +kernel
theorem c100 {d : Nat} {n : Nat} {S : ip_S} {R : ip_R} {L : ip_S} {Q : Option Value → Nat → ip_S → ip_R → ip_S → Prop} {a0 : Nat} {a1 : Nat} {a2 : Int32} {a3 : Int32} : ip_wc (d + 1) 100 [.ref a0, .ref a1, .int a2, .int a3] n S R L Q = ip_wp d 100 0 [some (.ref a0), some (.ref a1), some (.int a2), some (.int a3), none, none] [] n S R L Q := ip_wcE ml100 (Nat.le_of_ble_eq_true rfl) rfl
theorem na101 : ip_na 101 = 7 := by decide +kernel
theorem rc101 : ip_rc 101 = 10 + 0 := by decide +kernel
theorem rk101 : ip_rk 101 = 0 := by decide +kernel
theorem ml101 : ip_ml 101 = 10 := by decide +kernel
theorem c101 {d : Nat} {n : Nat} {S : ip_S} {R : ip_R} {L : ip_S} {Q : Option Value → Nat → ip_S → ip_R → ip_S → Prop} {a0 : Nat} {a1 : Nat} {a2 : Int32} {a3 : Int32} {a4 : Nat} {a5 : Int32} {a6 : Int32} : ip_wc (d + 1) 101 [.ref a0, .ref a1, .int a2, .int a3, .ref a4, .int a5, .int a6] n S R L Q = ip_wp d 101 0 [some (.ref a0), some (.ref a1), some (.int a2), some (.int a3), some (.ref a4), some (.int a5), some (.int a6), none, none, none] [] n S R L Q := ip_wcE ml101 (Nat.le_of_ble_eq_true rfl) rfl
theorem na102 : ip_na 102 = 5 := by decide +kernel
theorem rc102 : ip_rc 102 = 10 + 0 := by decide +kernel
theorem rk102 : ip_rk 102 = 0 := by decide +kernel
theorem ml102 : ip_ml 102 = 7 := by decide +kernel
theorem c102 {d : Nat} {n : Nat} {S : ip_S} {R : ip_R} {L : ip_S} {Q : Option Value → Nat → ip_S → ip_R → ip_S → Prop} {a0 : Nat} {a1 : Int32} {a2 : Int32} {a3 : Int32} {a4 : Int32} : ip_wc (d + 1) 102 [.ref a0, .int a1, .int a2, .int a3, .int a4] n S R L Q = ip_wp d 102 0 [some (.ref a0), some (.int a1), some (.int a2), some (.int a3), some (.int a4), none, none] [] n S R L Q := ip_wcE ml102 (Nat.le_of_ble_eq_true rfl) rfl
theorem na103 : ip_na 103 = 3 := by decide +kernel
theorem rc103 : ip_rc 103 = 10 + 7 := by decide +kernel
theorem rk103 : ip_rk 103 = 9 := by decide +kernel
theorem ml103 : ip_ml 103 = 4 := by decide +kernel
theorem c103 {d : Nat} {n : Nat} {S : ip_S} {R : ip_R} {L : ip_S} {Q : Option Value → Nat → ip_S → ip_R → ip_S → Prop} {a0 : Nat} {a1 : Int32} {a2 : Int32} : ip_wc (d + 1) 103 [.ref a0, .int a1, .int a2] n S R L Q = ip_wp d 103 0 [some (.ref a0), some (.int a1), some (.int a2), none] [] n S R L Q := ip_wcE ml103 (Nat.le_of_ble_eq_true rfl) rfl
theorem na104 : ip_na 104 = 3 := by decide +kernel
theorem rc104 : ip_rc 104 = 10 + 7 := by decide +kernel
theorem rk104 : ip_rk 104 = 9 := by decide +kernel
theorem ml104 : ip_ml 104 = 3 := by decide +kernel
theorem c104 {d : Nat} {n : Nat} {S : ip_S} {R : ip_R} {L : ip_S} {Q : Option Value → Nat → ip_S → ip_R → ip_S → Prop} {a0 : Nat} {a1 : Int32} {a2 : Int32} : ip_wc (d + 1) 104 [.ref a0, .int a1, .int a2] n S R L Q = ip_wp d 104 0 [some (.ref a0), some (.int a1), some (.int a2)] [] n S R L Q := ip_wcE ml104 (Nat.le_of_ble_eq_true rfl) rfl
theorem na105 : ip_na 105 = 4 := by decide +kernel
theorem rc105 : ip_rc 105 = 10 + 0 := by decide +kernel
theorem rk105 : ip_rk 105 = 0 := by decide +kernel
theorem ml105 : ip_ml 105 = 5 := by decide +kernel
theorem c105 {d : Nat} {n : Nat} {S : ip_S} {R : ip_R} {L : ip_S} {Q : Option Value → Nat → ip_S → ip_R → ip_S → Prop} {a0 : Nat} {a1 : Int32} {a2 : Int32} {a3 : Int32} : ip_wc (d + 1) 105 [.ref a0, .int a1, .int a2, .int a3] n S R L Q = ip_wp d 105 0 [some (.ref a0), some (.int a1), some (.int a2), some (.int a3), none] [] n S R L Q := ip_wcE ml105 (Nat.le_of_ble_eq_true rfl) rfl
theorem na106 : ip_na 106 = 1 := by decide +kernel
theorem rc106 : ip_rc 106 = 10 + 0 := by decide +kernel
theorem rk106 : ip_rk 106 = 9 := by decide +kernel
theorem ml106 : ip_ml 106 = 1 := by decide +kernel
theorem c106 {d : Nat} {n : Nat} {S : ip_S} {R : ip_R} {L : ip_S} {Q : Option Value → Nat → ip_S → ip_R → ip_S → Prop} {a0 : Nat} : ip_wc (d + 1) 106 [.ref a0] n S R L Q = ip_wp d 106 0 [some (.ref a0)] [] n S R L Q := ip_wcE ml106 (Nat.le_of_ble_eq_true rfl) rfl
theorem na107 : ip_na 107 = 2 := by decide +kernel
theorem rc107 : ip_rc 107 = 10 + 0 := by decide +kernel
theorem rk107 : ip_rk 107 = 9 := by decide +kernel
theorem ml107 : ip_ml 107 = 4 := by decide +kernel
theorem c107 {d : Nat} {n : Nat} {S : ip_S} {R : ip_R} {L : ip_S} {Q : Option Value → Nat → ip_S → ip_R → ip_S → Prop} {a0 : Nat} {a1 : Int32} : ip_wc (d + 1) 107 [.ref a0, .int a1] n S R L Q = ip_wp d 107 0 [some (.ref a0), some (.int a1), none, none] [] n S R L Q := ip_wcE ml107 (Nat.le_of_ble_eq_true rfl) rfl
theorem na108 : ip_na 108 = 1 := by decide +kernel
theorem rc108 : ip_rc 108 = 10 + 0 := by decide +kernel
theorem rk108 : ip_rk 108 = 9 := by decide +kernel
theorem ml108 : ip_ml 108 = 1 := by decide +kernel
theorem c108 {d : Nat} {n : Nat} {S : ip_S} {R : ip_R} {L : ip_S} {Q : Option Value → Nat → ip_S → ip_R → ip_S → Prop} {a0 : Nat} : ip_wc (d + 1) 108 [.ref a0] n S R L Q = ip_wp d 108 0 [some (.ref a0)] [] n S R L Q := ip_wcE ml108 (Nat.le_of_ble_eq_true rfl) rfl
theorem na109 : ip_na 109 = 5 := by decide +kernel
theorem rc109 : ip_rc 109 = 10 + 0 := by decide +kernel
theorem rk109 : ip_rk 109 = 4 := by decide +kernel
theorem ml109 : ip_ml 109 = 7 := by decide +kernel
theorem c109 {d : Nat} {n : Nat} {S : ip_S} {R : ip_R} {L : ip_S} {Q : Option Value → Nat → ip_S → ip_R → ip_S → Prop} {a0 : Nat} {a1 : Int32} {a2 : Int32} {a3 : Int32} {a4 : Int32} : ip_wc (d + 1) 109 [.ref a0, .int a1, .int a2, .int a3, .int a4] n S R L Q = ip_wp d 109 0 [some (.ref a0), some (.int a1), some (.int a2), some (.int a3), some (.int a4), none, none] [] n S R L Q := ip_wcE ml109 (Nat.le_of_ble_eq_true rfl) rfl
theorem na110 : ip_na 110 = 2 := by decide +kernel
theorem rc110 : ip_rc 110 = 0 := by decide +kernel
theorem rk110 : ip_rk 110 = 0 := by decide +kernel
theorem ml110 : ip_ml 110 = 3 := by decide +kernel
theorem c110 {d : Nat} {n : Nat} {S : ip_S} {R : ip_R} {L : ip_S} {Q : Option Value → Nat → ip_S → ip_R → ip_S → Prop} {a0 : Int32} {a1 : Int32} : ip_wc (d + 1) 110 [.int a0, .int a1] n S R L Q = ip_wp d 110 0 [some (.int a0), some (.int a1), none] [] n S R L Q := ip_wcE ml110 (Nat.le_of_ble_eq_true rfl) rfl
theorem na111 : ip_na 111 = 1 := by decide +kernel
theorem rc111 : ip_rc 111 = 10 + 0 := by decide +kernel
theorem rk111 : ip_rk 111 = 0 := by decide +kernel
theorem ml111 : ip_ml 111 = 1 := by decide +kernel
theorem c111 {d : Nat} {n : Nat} {S : ip_S} {R : ip_R} {L : ip_S} {Q : Option Value → Nat → ip_S → ip_R → ip_S → Prop} {a0 : Nat} : ip_wc (d + 1) 111 [.ref a0] n S R L Q = ip_wp d 111 0 [some (.ref a0)] [] n S R L Q := ip_wcE ml111 (Nat.le_of_ble_eq_true rfl) rfl
theorem na112 : ip_na 112 = 2 := by decide +kernel
theorem rc112 : ip_rc 112 = 10 + 1 := by decide +kernel
theorem rk112 : ip_rk 112 = 9 := by decide +kernel
theorem ml112 : ip_ml 112 = 2 := by decide +kernel
theorem c112 {d : Nat} {n : Nat} {S : ip_S} {R : ip_R} {L : ip_S} {Q : Option Value → Nat → ip_S → ip_R → ip_S → Prop} {a0 : Nat} {a1 : Nat} : ip_wc (d + 1) 112 [.ref a0, .ref a1] n S R L Q = ip_wp d 112 0 [some (.ref a0), some (.ref a1)] [] n S R L Q := ip_wcE ml112 (Nat.le_of_ble_eq_true rfl) rfl
theorem na113 : ip_na 113 = 1 := by decide +kernel
theorem rc113 : ip_rc 113 = 10 + 0 := by decide +kernel
theorem rk113 : ip_rk 113 = 0 := by decide +kernel
theorem ml113 : ip_ml 113 = 1 := by decide +kernel
theorem c113 {d : Nat} {n : Nat} {S : ip_S} {R : ip_R} {L : ip_S} {Q : Option Value → Nat → ip_S → ip_R → ip_S → Prop} {a0 : Nat} : ip_wc (d + 1) 113 [.ref a0] n S R L Q = ip_wp d 113 0 [some (.ref a0)] [] n S R L Q := ip_wcE ml113 (Nat.le_of_ble_eq_true rfl) rfl
theorem na114 : ip_na 114 = 2 := by decide +kernel
theorem rc114 : ip_rc 114 = 10 + 0 := by decide +kernel
theorem rk114 : ip_rk 114 = 0 := by decide +kernel
theorem ml114 : ip_ml 114 = 2 := by decide +kernel
theorem c114 {d : Nat} {n : Nat} {S : ip_S} {R : ip_R} {L : ip_S} {Q : Option Value → Nat → ip_S → ip_R → ip_S → Prop} {a0 : Nat} {a1 : Int32} : ip_wc (d + 1) 114 [.ref a0, .int a1] n S R L Q = ip_wp d 114 0 [some (.ref a0), some (.int a1)] [] n S R L Q := ip_wcE ml114 (Nat.le_of_ble_eq_true rfl) rfl
theorem na115 : ip_na 115 = 1 := by decide +kernel
theorem rc115 : ip_rc 115 = 10 + 1 := by decide +kernel
theorem rk115 : ip_rk 115 = 0 := by decide +kernel
theorem ml115 : ip_ml 115 = 3 := by decide +kernel
theorem c115 {d : Nat} {n : Nat} {S : ip_S} {R : ip_R} {L : ip_S} {Q : Option Value → Nat → ip_S → ip_R → ip_S → Prop} {a0 : Nat} : ip_wc (d + 1) 115 [.ref a0] n S R L Q = ip_wp d 115 0 [some (.ref a0), none, none] [] n S R L Q := ip_wcE ml115 (Nat.le_of_ble_eq_true rfl) rfl
theorem na116 : ip_na 116 = 1 := by decide +kernel
theorem rc116 : ip_rc 116 = 10 + 1 := by decide +kernel
theorem rk116 : ip_rk 116 = 0 := by decide +kernel
theorem ml116 : ip_ml 116 = 3 := by decide +kernel
theorem c116 {d : Nat} {n : Nat} {S : ip_S} {R : ip_R} {L : ip_S} {Q : Option Value → Nat → ip_S → ip_R → ip_S → Prop} {a0 : Nat} : ip_wc (d + 1) 116 [.ref a0] n S R L Q = ip_wp d 116 0 [some (.ref a0), none, none] [] n S R L Q := ip_wcE ml116 (Nat.le_of_ble_eq_true rfl) rfl
theorem na117 : ip_na 117 = 4 := by decide +kernel
theorem rc117 : ip_rc 117 = 10 + 0 := by decide +kernel
theorem rk117 : ip_rk 117 = 0 := by decide +kernel
theorem ml117 : ip_ml 117 = 4 := by decide +kernel
theorem c117 {d : Nat} {n : Nat} {S : ip_S} {R : ip_R} {L : ip_S} {Q : Option Value → Nat → ip_S → ip_R → ip_S → Prop} {a0 : Nat} {a1 : Int32} {a2 : Int32} {a3 : Int32} : ip_wc (d + 1) 117 [.ref a0, .int a1, .int a2, .int a3] n S R L Q = ip_wp d 117 0 [some (.ref a0), some (.int a1), some (.int a2), some (.int a3)] [] n S R L Q := ip_wcE ml117 (Nat.le_of_ble_eq_true rfl) rfl
theorem na118 : ip_na 118 = 4 := by decide +kernel
theorem rc118 : ip_rc 118 = 10 + 0 := by decide +kernel
theorem rk118 : ip_rk 118 = 0 := by decide +kernel
theorem ml118 : ip_ml 118 = 5 := by decide +kernel
theorem c118 {d : Nat} {n : Nat} {S : ip_S} {R : ip_R} {L : ip_S} {Q : Option Value → Nat → ip_S → ip_R → ip_S → Prop} {a0 : Nat} {a1 : Int32} {a2 : Int32} {a3 : Int32} : ip_wc (d + 1) 118 [.ref a0, .int a1, .int a2, .int a3] n S R L Q = ip_wp d 118 0 [some (.ref a0), some (.int a1), some (.int a2), some (.int a3), none] [] n S R L Q := ip_wcE ml118 (Nat.le_of_ble_eq_true rfl) rfl
theorem na119 : ip_na 119 = 6 := by decide +kernel
theorem rc119 : ip_rc 119 = 10 + 0 := by decide +kernel
theorem rk119 : ip_rk 119 = 0 := by decide +kernel
theorem ml119 : ip_ml 119 = 8 := by decide +kernel
theorem c119 {d : Nat} {n : Nat} {S : ip_S} {R : ip_R} {L : ip_S} {Q : Option Value → Nat → ip_S → ip_R → ip_S → Prop} {a0 : Nat} {a1 : Int32} {a2 : Int32} {a3 : Int32} {a4 : Int32} {a5 : Int32} : ip_wc (d + 1) 119 [.ref a0, .int a1, .int a2, .int a3, .int a4, .int a5] n S R L Q = ip_wp d 119 0 [some (.ref a0), some (.int a1), some (.int a2), some (.int a3), some (.int a4), some (.int a5), none, none] [] n S R L Q := ip_wcE ml119 (Nat.le_of_ble_eq_true rfl) rfl
theorem na120 : ip_na 120 = 3 := by decide +kernel
theorem rc120 : ip_rc 120 = 10 + 7 := by decide +kernel
theorem rk120 : ip_rk 120 = 1 := by decide +kernel
theorem ml120 : ip_ml 120 = 3 := by decide +kernel
theorem c120 {d : Nat} {n : Nat} {S : ip_S} {R : ip_R} {L : ip_S} {Q : Option Value → Nat → ip_S → ip_R → ip_S → Prop} {a0 : Nat} {a1 : Int32} {a2 : Int32} : ip_wc (d + 1) 120 [.ref a0, .int a1, .int a2] n S R L Q = ip_wp d 120 0 [some (.ref a0), some (.int a1), some (.int a2)] [] n S R L Q := ip_wcE ml120 (Nat.le_of_ble_eq_true rfl) rfl
theorem na121 : ip_na 121 = 5 := by decide +kernel
theorem rc121 : ip_rc 121 = 10 + 0 := by decide +kernel
theorem rk121 : ip_rk 121 = 0 := by decide +kernel
theorem ml121 : ip_ml 121 = 9 := by decide +kernel
theorem c121 {d : Nat} {n : Nat} {S : ip_S} {R : ip_R} {L : ip_S} {Q : Option Value → Nat → ip_S → ip_R → ip_S → Prop} {a0 : Nat} {a1 : Int32} {a2 : Int32} {a3 : Int32} {a4 : Int32} : ip_wc (d + 1) 121 [.ref a0, .int a1, .int a2, .int a3, .int a4] n S R L Q = ip_wp d 121 0 [some (.ref a0), some (.int a1), some (.int a2), some (.int a3), some (.int a4), none, none, none, none] [] n S R L Q := ip_wcE ml121 (Nat.le_of_ble_eq_true rfl) rfl
theorem na122 : ip_na 122 = 3 := by decide +kernel
theorem rc122 : ip_rc 122 = 10 + 0 := by decide +kernel
theorem rk122 : ip_rk 122 = 0 := by decide +kernel
theorem ml122 : ip_ml 122 = 3 := by decide +kernel
theorem c122 {d : Nat} {n : Nat} {S : ip_S} {R : ip_R} {L : ip_S} {Q : Option Value → Nat → ip_S → ip_R → ip_S → Prop} {a0 : Nat} {a1 : Int32} {a2 : Int32} : ip_wc (d + 1) 122 [.ref a0, .int a1, .int a2] n S R L Q = ip_wp d 122 0 [some (.ref a0), some (.int a1), some (.int a2)] [] n S R L Q := ip_wcE ml122 (Nat.le_of_ble_eq_true rfl) rfl
theorem na123 : ip_na 123 = 2 := by decide +kernel
theorem rc123 : ip_rc 123 = 0 := by decide +kernel
theorem rk123 : ip_rk 123 = 1 := by decide +kernel
theorem ml123 : ip_ml 123 = 2 := by decide +kernel
theorem c123 {d : Nat} {n : Nat} {S : ip_S} {R : ip_R} {L : ip_S} {Q : Option Value → Nat → ip_S → ip_R → ip_S → Prop} {a0 : Int32} {a1 : Int32} : ip_wc (d + 1) 123 [.int a0, .int a1] n S R L Q = ip_wp d 123 0 [some (.int a0), some (.int a1)] [] n S R L Q := ip_wcE ml123 (Nat.le_of_ble_eq_true rfl) rfl
theorem na124 : ip_na 124 = 1 := by decide +kernel
theorem rc124 : ip_rc 124 = 5 := by decide +kernel
theorem rk124 : ip_rk 124 = 9 := by decide +kernel
theorem ml124 : ip_ml 124 = 1 := by decide +kernel
theorem c124 {d : Nat} {n : Nat} {S : ip_S} {R : ip_R} {L : ip_S} {Q : Option Value → Nat → ip_S → ip_R → ip_S → Prop} {a0 : Nat} : ip_wc (d + 1) 124 [.ref a0] n S R L Q = ip_wp d 124 0 [some (.ref a0)] [] n S R L Q := ip_wcE ml124 (Nat.le_of_ble_eq_true rfl) rfl
theorem na125 : ip_na 125 = 1 := by decide +kernel
theorem rc125 : ip_rc 125 = 10 + 8 := by decide +kernel
theorem rk125 : ip_rk 125 = 9 := by decide +kernel
theorem ml125 : ip_ml 125 = 4 := by decide +kernel
theorem c125 {d : Nat} {n : Nat} {S : ip_S} {R : ip_R} {L : ip_S} {Q : Option Value → Nat → ip_S → ip_R → ip_S → Prop} {a0 : Nat} : ip_wc (d + 1) 125 [.ref a0] n S R L Q = ip_wp d 125 0 [some (.ref a0), none, none, none] [] n S R L Q := ip_wcE ml125 (Nat.le_of_ble_eq_true rfl) rfl
theorem na126 : ip_na 126 = 10 := by decide +kernel
theorem rc126 : ip_rc 126 = 10 + 8 := by decide +kernel
theorem rk126 : ip_rk 126 = 9 := by decide +kernel
theorem ml126 : ip_ml 126 = 10 := by decide +kernel
theorem c126 {d : Nat} {n : Nat} {S : ip_S} {R : ip_R} {L : ip_S} {Q : Option Value → Nat → ip_S → ip_R → ip_S → Prop} {a0 : Nat} {a1 : Int32} {a2 : Int32} {a3 : Int32} {a4 : Int32} {a5 : Int32} {a6 : Int32} {a7 : Int32} {a8 : Int32} {a9 : Int32} : ip_wc (d + 1) 126 [.ref a0, .int a1, .int a2, .int a3, .int a4, .int a5, .int a6, .int a7, .int a8, .int a9] n S R L Q = ip_wp d 126 0 [some (.ref a0), some (.int a1), some (.int a2), some (.int a3), some (.int a4), some (.int a5), some (.int a6), some (.int a7), some (.int a8), some (.int a9)] [] n S R L Q := ip_wcE ml126 (Nat.le_of_ble_eq_true rfl) rfl
theorem na127 : ip_na 127 = 4 := by decide +kernel
theorem rc127 : ip_rc 127 = 10 + 8 := by decide +kernel
theorem rk127 : ip_rk 127 = 0 := by decide +kernel
theorem ml127 : ip_ml 127 = 5 := by decide +kernel
theorem c127 {d : Nat} {n : Nat} {S : ip_S} {R : ip_R} {L : ip_S} {Q : Option Value → Nat → ip_S → ip_R → ip_S → Prop} {a0 : Nat} {a1 : Int32} {a2 : Int32} {a3 : Int32} : ip_wc (d + 1) 127 [.ref a0, .int a1, .int a2, .int a3] n S R L Q = ip_wp d 127 0 [some (.ref a0), some (.int a1), some (.int a2), some (.int a3), none] [] n S R L Q := ip_wcE ml127 (Nat.le_of_ble_eq_true rfl) rfl
theorem na128 : ip_na 128 = 3 := by decide +kernel
theorem rc128 : ip_rc 128 = 0 := by decide +kernel
theorem rk128 : ip_rk 128 = 1 := by decide +kernel
theorem ml128 : ip_ml 128 = 6 := by decide +kernel
theorem c128 {d : Nat} {n : Nat} {S : ip_S} {R : ip_R} {L : ip_S} {Q : Option Value → Nat → ip_S → ip_R → ip_S → Prop} {a0 : Int64} {a1 : Int64} {a2 : Int64} : ip_wc (d + 1) 128 [.long a0, .long a1, .long a2] n S R L Q = ip_wp d 128 0 [some (.long a0), none, some (.long a1), none, some (.long a2), none] [] n S R L Q := ip_wcE ml128 (Nat.le_of_ble_eq_true rfl) rfl
theorem na129 : ip_na 129 = 2 := by decide +kernel
theorem rc129 : ip_rc 129 = 10 + 8 := by decide +kernel
theorem rk129 : ip_rk 129 = 1 := by decide +kernel
theorem ml129 : ip_ml 129 = 2 := by decide +kernel
theorem c129 {d : Nat} {n : Nat} {S : ip_S} {R : ip_R} {L : ip_S} {Q : Option Value → Nat → ip_S → ip_R → ip_S → Prop} {a0 : Nat} {a1 : Int32} : ip_wc (d + 1) 129 [.ref a0, .int a1] n S R L Q = ip_wp d 129 0 [some (.ref a0), some (.int a1)] [] n S R L Q := ip_wcE ml129 (Nat.le_of_ble_eq_true rfl) rfl
theorem na130 : ip_na 130 = 1 := by decide +kernel
theorem rc130 : ip_rc 130 = 0 := by decide +kernel
theorem rk130 : ip_rk 130 = 0 := by decide +kernel
theorem ml130 : ip_ml 130 = 1 := by decide +kernel
theorem c130 {d : Nat} {n : Nat} {S : ip_S} {R : ip_R} {L : ip_S} {Q : Option Value → Nat → ip_S → ip_R → ip_S → Prop} {a0 : Int32} : ip_wc (d + 1) 130 [.int a0] n S R L Q = ip_wp d 130 0 [some (.int a0)] [] n S R L Q := ip_wcE ml130 (Nat.le_of_ble_eq_true rfl) rfl
theorem na131 : ip_na 131 = 3 := by decide +kernel
theorem rc131 : ip_rc 131 = 10 + 8 := by decide +kernel
theorem rk131 : ip_rk 131 = 0 := by decide +kernel
theorem ml131 : ip_ml 131 = 3 := by decide +kernel
theorem c131 {d : Nat} {n : Nat} {S : ip_S} {R : ip_R} {L : ip_S} {Q : Option Value → Nat → ip_S → ip_R → ip_S → Prop} {a0 : Nat} {a1 : Int32} {a2 : Int32} : ip_wc (d + 1) 131 [.ref a0, .int a1, .int a2] n S R L Q = ip_wp d 131 0 [some (.ref a0), some (.int a1), some (.int a2)] [] n S R L Q := ip_wcE ml131 (Nat.le_of_ble_eq_true rfl) rfl
theorem na132 : ip_na 132 = 2 := by decide +kernel
theorem rc132 : ip_rc 132 = 10 + 8 := by decide +kernel
theorem rk132 : ip_rk 132 = 0 := by decide +kernel
theorem ml132 : ip_ml 132 = 6 := by decide +kernel
theorem c132 {d : Nat} {n : Nat} {S : ip_S} {R : ip_R} {L : ip_S} {Q : Option Value → Nat → ip_S → ip_R → ip_S → Prop} {a0 : Nat} {a1 : Int32} : ip_wc (d + 1) 132 [.ref a0, .int a1] n S R L Q = ip_wp d 132 0 [some (.ref a0), some (.int a1), none, none, none, none] [] n S R L Q := ip_wcE ml132 (Nat.le_of_ble_eq_true rfl) rfl
theorem na133 : ip_na 133 = 5 := by decide +kernel
theorem rc133 : ip_rc 133 = 10 + 8 := by decide +kernel
theorem rk133 : ip_rk 133 = 0 := by decide +kernel
theorem ml133 : ip_ml 133 = 7 := by decide +kernel
theorem c133 {d : Nat} {n : Nat} {S : ip_S} {R : ip_R} {L : ip_S} {Q : Option Value → Nat → ip_S → ip_R → ip_S → Prop} {a0 : Nat} {a1 : Int32} {a2 : Int32} {a3 : Int32} {a4 : Int32} : ip_wc (d + 1) 133 [.ref a0, .int a1, .int a2, .int a3, .int a4] n S R L Q = ip_wp d 133 0 [some (.ref a0), some (.int a1), some (.int a2), some (.int a3), some (.int a4), none, none] [] n S R L Q := ip_wcE ml133 (Nat.le_of_ble_eq_true rfl) rfl
theorem na134 : ip_na 134 = 6 := by decide +kernel
theorem rc134 : ip_rc 134 = 10 + 8 := by decide +kernel
theorem rk134 : ip_rk 134 = 0 := by decide +kernel
theorem ml134 : ip_ml 134 = 9 := by decide +kernel
theorem c134 {d : Nat} {n : Nat} {S : ip_S} {R : ip_R} {L : ip_S} {Q : Option Value → Nat → ip_S → ip_R → ip_S → Prop} {a0 : Nat} {a1 : Int32} {a2 : Int32} {a3 : Int32} {a4 : Int32} {a5 : Int32} : ip_wc (d + 1) 134 [.ref a0, .int a1, .int a2, .int a3, .int a4, .int a5] n S R L Q = ip_wp d 134 0 [some (.ref a0), some (.int a1), some (.int a2), some (.int a3), some (.int a4), some (.int a5), none, none, none] [] n S R L Q := ip_wcE ml134 (Nat.le_of_ble_eq_true rfl) rfl
theorem na135 : ip_na 135 = 7 := by decide +kernel
theorem rc135 : ip_rc 135 = 10 + 8 := by decide +kernel
theorem rk135 : ip_rk 135 = 0 := by decide +kernel
theorem ml135 : ip_ml 135 = 8 := by decide +kernel
theorem c135 {d : Nat} {n : Nat} {S : ip_S} {R : ip_R} {L : ip_S} {Q : Option Value → Nat → ip_S → ip_R → ip_S → Prop} {a0 : Nat} {a1 : Int32} {a2 : Int32} {a3 : Int32} {a4 : Int32} {a5 : Int32} {a6 : Int32} : ip_wc (d + 1) 135 [.ref a0, .int a1, .int a2, .int a3, .int a4, .int a5, .int a6] n S R L Q = ip_wp d 135 0 [some (.ref a0), some (.int a1), some (.int a2), some (.int a3), some (.int a4), some (.int a5), some (.int a6), none] [] n S R L Q := ip_wcE ml135 (Nat.le_of_ble_eq_true rfl) rfl
theorem na136 : ip_na 136 = 2 := by decide +kernel
theorem rc136 : ip_rc 136 = 10 + 8 := by decide +kernel
theorem rk136 : ip_rk 136 = 0 := by decide +kernel
theorem ml136 : ip_ml 136 = 2 := by decide +kernel
theorem c136 {d : Nat} {n : Nat} {S : ip_S} {R : ip_R} {L : ip_S} {Q : Option Value → Nat → ip_S → ip_R → ip_S → Prop} {a0 : Nat} {a1 : Int32} : ip_wc (d + 1) 136 [.ref a0, .int a1] n S R L Q = ip_wp d 136 0 [some (.ref a0), some (.int a1)] [] n S R L Q := ip_wcE ml136 (Nat.le_of_ble_eq_true rfl) rfl
theorem na137 : ip_na 137 = 3 := by decide +kernel
theorem rc137 : ip_rc 137 = 10 + 8 := by decide +kernel
theorem rk137 : ip_rk 137 = 0 := by decide +kernel
theorem ml137 : ip_ml 137 = 6 := by decide +kernel
theorem c137 {d : Nat} {n : Nat} {S : ip_S} {R : ip_R} {L : ip_S} {Q : Option Value → Nat → ip_S → ip_R → ip_S → Prop} {a0 : Nat} {a1 : Int32} {a2 : Int32} : ip_wc (d + 1) 137 [.ref a0, .int a1, .int a2] n S R L Q = ip_wp d 137 0 [some (.ref a0), some (.int a1), some (.int a2), none, none, none] [] n S R L Q := ip_wcE ml137 (Nat.le_of_ble_eq_true rfl) rfl
theorem na138 : ip_na 138 = 1 := by decide +kernel
theorem rc138 : ip_rc 138 = 10 + 8 := by decide +kernel
theorem rk138 : ip_rk 138 = 9 := by decide +kernel
theorem ml138 : ip_ml 138 = 3 := by decide +kernel
theorem c138 {d : Nat} {n : Nat} {S : ip_S} {R : ip_R} {L : ip_S} {Q : Option Value → Nat → ip_S → ip_R → ip_S → Prop} {a0 : Nat} : ip_wc (d + 1) 138 [.ref a0] n S R L Q = ip_wp d 138 0 [some (.ref a0), none, none] [] n S R L Q := ip_wcE ml138 (Nat.le_of_ble_eq_true rfl) rfl
theorem na139 : ip_na 139 = 2 := by decide +kernel
theorem rc139 : ip_rc 139 = 10 + 8 := by decide +kernel
theorem rk139 : ip_rk 139 = 0 := by decide +kernel
theorem ml139 : ip_ml 139 = 2 := by decide +kernel
theorem c139 {d : Nat} {n : Nat} {S : ip_S} {R : ip_R} {L : ip_S} {Q : Option Value → Nat → ip_S → ip_R → ip_S → Prop} {a0 : Nat} {a1 : Int32} : ip_wc (d + 1) 139 [.ref a0, .int a1] n S R L Q = ip_wp d 139 0 [some (.ref a0), some (.int a1)] [] n S R L Q := ip_wcE ml139 (Nat.le_of_ble_eq_true rfl) rfl
theorem na140 : ip_na 140 = 9 := by decide +kernel
theorem rc140 : ip_rc 140 = 10 + 8 := by decide +kernel
theorem rk140 : ip_rk 140 = 1 := by decide +kernel
theorem ml140 : ip_ml 140 = 9 := by decide +kernel
theorem c140 {d : Nat} {n : Nat} {S : ip_S} {R : ip_R} {L : ip_S} {Q : Option Value → Nat → ip_S → ip_R → ip_S → Prop} {a0 : Nat} {a1 : Int32} {a2 : Int32} {a3 : Int32} {a4 : Int32} {a5 : Int32} {a6 : Int32} {a7 : Int32} {a8 : Int32} : ip_wc (d + 1) 140 [.ref a0, .int a1, .int a2, .int a3, .int a4, .int a5, .int a6, .int a7, .int a8] n S R L Q = ip_wp d 140 0 [some (.ref a0), some (.int a1), some (.int a2), some (.int a3), some (.int a4), some (.int a5), some (.int a6), some (.int a7), some (.int a8)] [] n S R L Q := ip_wcE ml140 (Nat.le_of_ble_eq_true rfl) rfl
theorem na141 : ip_na 141 = 3 := by decide +kernel
theorem rc141 : ip_rc 141 = 10 + 8 := by decide +kernel
theorem rk141 : ip_rk 141 = 1 := by decide +kernel
theorem ml141 : ip_ml 141 = 3 := by decide +kernel
theorem c141 {d : Nat} {n : Nat} {S : ip_S} {R : ip_R} {L : ip_S} {Q : Option Value → Nat → ip_S → ip_R → ip_S → Prop} {a0 : Nat} {a1 : Int32} {a2 : Int32} : ip_wc (d + 1) 141 [.ref a0, .int a1, .int a2] n S R L Q = ip_wp d 141 0 [some (.ref a0), some (.int a1), some (.int a2)] [] n S R L Q := ip_wcE ml141 (Nat.le_of_ble_eq_true rfl) rfl
theorem na142 : ip_na 142 = 2 := by decide +kernel
theorem rc142 : ip_rc 142 = 10 + 8 := by decide +kernel
theorem rk142 : ip_rk 142 = 0 := by decide +kernel
theorem ml142 : ip_ml 142 = 3 := by decide +kernel
theorem c142 {d : Nat} {n : Nat} {S : ip_S} {R : ip_R} {L : ip_S} {Q : Option Value → Nat → ip_S → ip_R → ip_S → Prop} {a0 : Nat} {a1 : Int32} : ip_wc (d + 1) 142 [.ref a0, .int a1] n S R L Q = ip_wp d 142 0 [some (.ref a0), some (.int a1), none] [] n S R L Q := ip_wcE ml142 (Nat.le_of_ble_eq_true rfl) rfl
theorem na143 : ip_na 143 = 1 := by decide +kernel
theorem rc143 : ip_rc 143 = 10 + 8 := by decide +kernel
theorem rk143 : ip_rk 143 = 9 := by decide +kernel
theorem ml143 : ip_ml 143 = 1 := by decide +kernel
theorem c143 {d : Nat} {n : Nat} {S : ip_S} {R : ip_R} {L : ip_S} {Q : Option Value → Nat → ip_S → ip_R → ip_S → Prop} {a0 : Nat} : ip_wc (d + 1) 143 [.ref a0] n S R L Q = ip_wp d 143 0 [some (.ref a0)] [] n S R L Q := ip_wcE ml143 (Nat.le_of_ble_eq_true rfl) rfl
theorem na144 : ip_na 144 = 1 := by decide +kernel
theorem rc144 : ip_rc 144 = 10 + 8 := by decide +kernel
theorem rk144 : ip_rk 144 = 0 := by decide +kernel
theorem ml144 : ip_ml 144 = 3 := by decide +kernel
theorem c144 {d : Nat} {n : Nat} {S : ip_S} {R : ip_R} {L : ip_S} {Q : Option Value → Nat → ip_S → ip_R → ip_S → Prop} {a0 : Nat} : ip_wc (d + 1) 144 [.ref a0] n S R L Q = ip_wp d 144 0 [some (.ref a0), none, none] [] n S R L Q := ip_wcE ml144 (Nat.le_of_ble_eq_true rfl) rfl
theorem na145 : ip_na 145 = 1 := by decide +kernel
theorem rc145 : ip_rc 145 = 10 + 8 := by decide +kernel
theorem rk145 : ip_rk 145 = 0 := by decide +kernel
theorem ml145 : ip_ml 145 = 3 := by decide +kernel
theorem c145 {d : Nat} {n : Nat} {S : ip_S} {R : ip_R} {L : ip_S} {Q : Option Value → Nat → ip_S → ip_R → ip_S → Prop} {a0 : Nat} : ip_wc (d + 1) 145 [.ref a0] n S R L Q = ip_wp d 145 0 [some (.ref a0), none, none] [] n S R L Q := ip_wcE ml145 (Nat.le_of_ble_eq_true rfl) rfl
theorem na146 : ip_na 146 = 1 := by decide +kernel
theorem rc146 : ip_rc 146 = 10 + 8 := by decide +kernel
theorem rk146 : ip_rk 146 = 0 := by decide +kernel
theorem ml146 : ip_ml 146 = 4 := by decide +kernel
theorem c146 {d : Nat} {n : Nat} {S : ip_S} {R : ip_R} {L : ip_S} {Q : Option Value → Nat → ip_S → ip_R → ip_S → Prop} {a0 : Nat} : ip_wc (d + 1) 146 [.ref a0] n S R L Q = ip_wp d 146 0 [some (.ref a0), none, none, none] [] n S R L Q := ip_wcE ml146 (Nat.le_of_ble_eq_true rfl) rfl
theorem na147 : ip_na 147 = 1 := by decide +kernel
theorem rc147 : ip_rc 147 = 10 + 8 := by decide +kernel
theorem rk147 : ip_rk 147 = 1 := by decide +kernel
theorem ml147 : ip_ml 147 = 1 := by decide +kernel
theorem c147 {d : Nat} {n : Nat} {S : ip_S} {R : ip_R} {L : ip_S} {Q : Option Value → Nat → ip_S → ip_R → ip_S → Prop} {a0 : Nat} : ip_wc (d + 1) 147 [.ref a0] n S R L Q = ip_wp d 147 0 [some (.ref a0)] [] n S R L Q := ip_wcE ml147 (Nat.le_of_ble_eq_true rfl) rfl
theorem na148 : ip_na 148 = 1 := by decide +kernel
theorem rc148 : ip_rc 148 = 10 + 8 := by decide +kernel
theorem rk148 : ip_rk 148 = 0 := by decide +kernel
theorem ml148 : ip_ml 148 = 4 := by decide +kernel
theorem c148 {d : Nat} {n : Nat} {S : ip_S} {R : ip_R} {L : ip_S} {Q : Option Value → Nat → ip_S → ip_R → ip_S → Prop} {a0 : Nat} : ip_wc (d + 1) 148 [.ref a0] n S R L Q = ip_wp d 148 0 [some (.ref a0), none, none, none] [] n S R L Q := ip_wcE ml148 (Nat.le_of_ble_eq_true rfl) rfl
theorem na149 : ip_na 149 = 1 := by decide +kernel
theorem rc149 : ip_rc 149 = 10 + 8 := by decide +kernel
theorem rk149 : ip_rk 149 = 0 := by decide +kernel
theorem ml149 : ip_ml 149 = 4 := by decide +kernel
theorem c149 {d : Nat} {n : Nat} {S : ip_S} {R : ip_R} {L : ip_S} {Q : Option Value → Nat → ip_S → ip_R → ip_S → Prop} {a0 : Nat} : ip_wc (d + 1) 149 [.ref a0] n S R L Q = ip_wp d 149 0 [some (.ref a0), none, none, none] [] n S R L Q := ip_wcE ml149 (Nat.le_of_ble_eq_true rfl) rfl
theorem na150 : ip_na 150 = 1 := by decide +kernel
theorem rc150 : ip_rc 150 = 10 + 8 := by decide +kernel
theorem rk150 : ip_rk 150 = 0 := by decide +kernel
theorem ml150 : ip_ml 150 = 4 := by decide +kernel
theorem c150 {d : Nat} {n : Nat} {S : ip_S} {R : ip_R} {L : ip_S} {Q : Option Value → Nat → ip_S → ip_R → ip_S → Prop} {a0 : Nat} : ip_wc (d + 1) 150 [.ref a0] n S R L Q = ip_wp d 150 0 [some (.ref a0), none, none, none] [] n S R L Q := ip_wcE ml150 (Nat.le_of_ble_eq_true rfl) rfl
theorem na151 : ip_na 151 = 1 := by decide +kernel
theorem rc151 : ip_rc 151 = 10 + 8 := by decide +kernel
theorem rk151 : ip_rk 151 = 0 := by decide +kernel
theorem ml151 : ip_ml 151 = 4 := by decide +kernel
theorem c151 {d : Nat} {n : Nat} {S : ip_S} {R : ip_R} {L : ip_S} {Q : Option Value → Nat → ip_S → ip_R → ip_S → Prop} {a0 : Nat} : ip_wc (d + 1) 151 [.ref a0] n S R L Q = ip_wp d 151 0 [some (.ref a0), none, none, none] [] n S R L Q := ip_wcE ml151 (Nat.le_of_ble_eq_true rfl) rfl
theorem na152 : ip_na 152 = 1 := by decide +kernel
theorem rc152 : ip_rc 152 = 10 + 8 := by decide +kernel
theorem rk152 : ip_rk 152 = 0 := by decide +kernel
theorem ml152 : ip_ml 152 = 4 := by decide +kernel
theorem c152 {d : Nat} {n : Nat} {S : ip_S} {R : ip_R} {L : ip_S} {Q : Option Value → Nat → ip_S → ip_R → ip_S → Prop} {a0 : Nat} : ip_wc (d + 1) 152 [.ref a0] n S R L Q = ip_wp d 152 0 [some (.ref a0), none, none, none] [] n S R L Q := ip_wcE ml152 (Nat.le_of_ble_eq_true rfl) rfl
theorem na153 : ip_na 153 = 1 := by decide +kernel
theorem rc153 : ip_rc 153 = 10 + 8 := by decide +kernel
theorem rk153 : ip_rk 153 = 0 := by decide +kernel
theorem ml153 : ip_ml 153 = 4 := by decide +kernel
theorem c153 {d : Nat} {n : Nat} {S : ip_S} {R : ip_R} {L : ip_S} {Q : Option Value → Nat → ip_S → ip_R → ip_S → Prop} {a0 : Nat} : ip_wc (d + 1) 153 [.ref a0] n S R L Q = ip_wp d 153 0 [some (.ref a0), none, none, none] [] n S R L Q := ip_wcE ml153 (Nat.le_of_ble_eq_true rfl) rfl
theorem na154 : ip_na 154 = 1 := by decide +kernel
theorem rc154 : ip_rc 154 = 10 + 8 := by decide +kernel
theorem rk154 : ip_rk 154 = 0 := by decide +kernel
theorem ml154 : ip_ml 154 = 2 := by decide +kernel
theorem c154 {d : Nat} {n : Nat} {S : ip_S} {R : ip_R} {L : ip_S} {Q : Option Value → Nat → ip_S → ip_R → ip_S → Prop} {a0 : Nat} : ip_wc (d + 1) 154 [.ref a0] n S R L Q = ip_wp d 154 0 [some (.ref a0), none] [] n S R L Q := ip_wcE ml154 (Nat.le_of_ble_eq_true rfl) rfl
theorem na155 : ip_na 155 = 1 := by decide +kernel
theorem rc155 : ip_rc 155 = 10 + 8 := by decide +kernel
theorem rk155 : ip_rk 155 = 0 := by decide +kernel
theorem ml155 : ip_ml 155 = 2 := by decide +kernel
theorem c155 {d : Nat} {n : Nat} {S : ip_S} {R : ip_R} {L : ip_S} {Q : Option Value → Nat → ip_S → ip_R → ip_S → Prop} {a0 : Nat} : ip_wc (d + 1) 155 [.ref a0] n S R L Q = ip_wp d 155 0 [some (.ref a0), none] [] n S R L Q := ip_wcE ml155 (Nat.le_of_ble_eq_true rfl) rfl
theorem na156 : ip_na 156 = 2 := by decide +kernel
theorem rc156 : ip_rc 156 = 10 + 8 := by decide +kernel
theorem rk156 : ip_rk 156 = 1 := by decide +kernel
theorem ml156 : ip_ml 156 = 2 := by decide +kernel
theorem c156 {d : Nat} {n : Nat} {S : ip_S} {R : ip_R} {L : ip_S} {Q : Option Value → Nat → ip_S → ip_R → ip_S → Prop} {a0 : Nat} {a1 : Int32} : ip_wc (d + 1) 156 [.ref a0, .int a1] n S R L Q = ip_wp d 156 0 [some (.ref a0), some (.int a1)] [] n S R L Q := ip_wcE ml156 (Nat.le_of_ble_eq_true rfl) rfl
theorem na157 : ip_na 157 = 1 := by decide +kernel
theorem rc157 : ip_rc 157 = 10 + 8 := by decide +kernel
theorem rk157 : ip_rk 157 = 0 := by decide +kernel
theorem ml157 : ip_ml 157 = 1 := by decide +kernel
theorem c157 {d : Nat} {n : Nat} {S : ip_S} {R : ip_R} {L : ip_S} {Q : Option Value → Nat → ip_S → ip_R → ip_S → Prop} {a0 : Nat} : ip_wc (d + 1) 157 [.ref a0] n S R L Q = ip_wp d 157 0 [some (.ref a0)] [] n S R L Q := ip_wcE ml157 (Nat.le_of_ble_eq_true rfl) rfl
theorem na158 : ip_na 158 = 1 := by decide +kernel
theorem rc158 : ip_rc 158 = 10 + 8 := by decide +kernel
theorem rk158 : ip_rk 158 = 0 := by decide +kernel
theorem ml158 : ip_ml 158 = 4 := by decide +kernel
theorem c158 {d : Nat} {n : Nat} {S : ip_S} {R : ip_R} {L : ip_S} {Q : Option Value → Nat → ip_S → ip_R → ip_S → Prop} {a0 : Nat} : ip_wc (d + 1) 158 [.ref a0] n S R L Q = ip_wp d 158 0 [some (.ref a0), none, none, none] [] n S R L Q := ip_wcE ml158 (Nat.le_of_ble_eq_true rfl) rfl
theorem na159 : ip_na 159 = 1 := by decide +kernel
theorem rc159 : ip_rc 159 = 10 + 8 := by decide +kernel
theorem rk159 : ip_rk 159 = 0 := by decide +kernel
theorem ml159 : ip_ml 159 = 2 := by decide +kernel
theorem c159 {d : Nat} {n : Nat} {S : ip_S} {R : ip_R} {L : ip_S} {Q : Option Value → Nat → ip_S → ip_R → ip_S → Prop} {a0 : Nat} : ip_wc (d + 1) 159 [.ref a0] n S R L Q = ip_wp d 159 0 [some (.ref a0), none] [] n S R L Q := ip_wcE ml159 (Nat.le_of_ble_eq_true rfl) rfl
theorem na160 : ip_na 160 = 1 := by decide +kernel
theorem rc160 : ip_rc 160 = 10 + 8 := by decide +kernel
theorem rk160 : ip_rk 160 = 0 := by decide +kernel
theorem ml160 : ip_ml 160 = 2 := by decide +kernel
theorem c160 {d : Nat} {n : Nat} {S : ip_S} {R : ip_R} {L : ip_S} {Q : Option Value → Nat → ip_S → ip_R → ip_S → Prop} {a0 : Nat} : ip_wc (d + 1) 160 [.ref a0] n S R L Q = ip_wp d 160 0 [some (.ref a0), none] [] n S R L Q := ip_wcE ml160 (Nat.le_of_ble_eq_true rfl) rfl
theorem na161 : ip_na 161 = 1 := by decide +kernel
theorem rc161 : ip_rc 161 = 10 + 8 := by decide +kernel
theorem rk161 : ip_rk 161 = 0 := by decide +kernel
theorem ml161 : ip_ml 161 = 3 := by decide +kernel
theorem c161 {d : Nat} {n : Nat} {S : ip_S} {R : ip_R} {L : ip_S} {Q : Option Value → Nat → ip_S → ip_R → ip_S → Prop} {a0 : Nat} : ip_wc (d + 1) 161 [.ref a0] n S R L Q = ip_wp d 161 0 [some (.ref a0), none, none] [] n S R L Q := ip_wcE ml161 (Nat.le_of_ble_eq_true rfl) rfl
theorem na162 : ip_na 162 = 1 := by decide +kernel
theorem rc162 : ip_rc 162 = 10 + 8 := by decide +kernel
theorem rk162 : ip_rk 162 = 0 := by decide +kernel
theorem ml162 : ip_ml 162 = 3 := by decide +kernel
theorem c162 {d : Nat} {n : Nat} {S : ip_S} {R : ip_R} {L : ip_S} {Q : Option Value → Nat → ip_S → ip_R → ip_S → Prop} {a0 : Nat} : ip_wc (d + 1) 162 [.ref a0] n S R L Q = ip_wp d 162 0 [some (.ref a0), none, none] [] n S R L Q := ip_wcE ml162 (Nat.le_of_ble_eq_true rfl) rfl
theorem na163 : ip_na 163 = 1 := by decide +kernel
theorem rc163 : ip_rc 163 = 10 + 8 := by decide +kernel
theorem rk163 : ip_rk 163 = 0 := by decide +kernel
theorem ml163 : ip_ml 163 = 4 := by decide +kernel
theorem c163 {d : Nat} {n : Nat} {S : ip_S} {R : ip_R} {L : ip_S} {Q : Option Value → Nat → ip_S → ip_R → ip_S → Prop} {a0 : Nat} : ip_wc (d + 1) 163 [.ref a0] n S R L Q = ip_wp d 163 0 [some (.ref a0), none, none, none] [] n S R L Q := ip_wcE ml163 (Nat.le_of_ble_eq_true rfl) rfl
theorem na164 : ip_na 164 = 1 := by decide +kernel
theorem rc164 : ip_rc 164 = 10 + 8 := by decide +kernel
theorem rk164 : ip_rk 164 = 0 := by decide +kernel
theorem ml164 : ip_ml 164 = 2 := by decide +kernel
theorem c164 {d : Nat} {n : Nat} {S : ip_S} {R : ip_R} {L : ip_S} {Q : Option Value → Nat → ip_S → ip_R → ip_S → Prop} {a0 : Nat} : ip_wc (d + 1) 164 [.ref a0] n S R L Q = ip_wp d 164 0 [some (.ref a0), none] [] n S R L Q := ip_wcE ml164 (Nat.le_of_ble_eq_true rfl) rfl
theorem na165 : ip_na 165 = 1 := by decide +kernel
theorem rc165 : ip_rc 165 = 10 + 8 := by decide +kernel
theorem rk165 : ip_rk 165 = 0 := by decide +kernel
theorem ml165 : ip_ml 165 = 2 := by decide +kernel
theorem c165 {d : Nat} {n : Nat} {S : ip_S} {R : ip_R} {L : ip_S} {Q : Option Value → Nat → ip_S → ip_R → ip_S → Prop} {a0 : Nat} : ip_wc (d + 1) 165 [.ref a0] n S R L Q = ip_wp d 165 0 [some (.ref a0), none] [] n S R L Q := ip_wcE ml165 (Nat.le_of_ble_eq_true rfl) rfl
theorem na166 : ip_na 166 = 1 := by decide +kernel
theorem rc166 : ip_rc 166 = 10 + 8 := by decide +kernel
theorem rk166 : ip_rk 166 = 0 := by decide +kernel
theorem ml166 : ip_ml 166 = 3 := by decide +kernel
theorem c166 {d : Nat} {n : Nat} {S : ip_S} {R : ip_R} {L : ip_S} {Q : Option Value → Nat → ip_S → ip_R → ip_S → Prop} {a0 : Nat} : ip_wc (d + 1) 166 [.ref a0] n S R L Q = ip_wp d 166 0 [some (.ref a0), none, none] [] n S R L Q := ip_wcE ml166 (Nat.le_of_ble_eq_true rfl) rfl
theorem na167 : ip_na 167 = 1 := by decide +kernel
theorem rc167 : ip_rc 167 = 10 + 8 := by decide +kernel
theorem rk167 : ip_rk 167 = 0 := by decide +kernel
theorem ml167 : ip_ml 167 = 3 := by decide +kernel
theorem c167 {d : Nat} {n : Nat} {S : ip_S} {R : ip_R} {L : ip_S} {Q : Option Value → Nat → ip_S → ip_R → ip_S → Prop} {a0 : Nat} : ip_wc (d + 1) 167 [.ref a0] n S R L Q = ip_wp d 167 0 [some (.ref a0), none, none] [] n S R L Q := ip_wcE ml167 (Nat.le_of_ble_eq_true rfl) rfl
theorem na168 : ip_na 168 = 1 := by decide +kernel
theorem rc168 : ip_rc 168 = 10 + 8 := by decide +kernel
theorem rk168 : ip_rk 168 = 0 := by decide +kernel
theorem ml168 : ip_ml 168 = 4 := by decide +kernel
theorem c168 {d : Nat} {n : Nat} {S : ip_S} {R : ip_R} {L : ip_S} {Q : Option Value → Nat → ip_S → ip_R → ip_S → Prop} {a0 : Nat} : ip_wc (d + 1) 168 [.ref a0] n S R L Q = ip_wp d 168 0 [some (.ref a0), none, none, none] [] n S R L Q := ip_wcE ml168 (Nat.le_of_ble_eq_true rfl) rfl
theorem na169 : ip_na 169 = 1 := by decide +kernel
theorem rc169 : ip_rc 169 = 10 + 8 := by decide +kernel
theorem rk169 : ip_rk 169 = 0 := by decide +kernel
theorem ml169 : ip_ml 169 = 2 := by decide +kernel
theorem c169 {d : Nat} {n : Nat} {S : ip_S} {R : ip_R} {L : ip_S} {Q : Option Value → Nat → ip_S → ip_R → ip_S → Prop} {a0 : Nat} : ip_wc (d + 1) 169 [.ref a0] n S R L Q = ip_wp d 169 0 [some (.ref a0), none] [] n S R L Q := ip_wcE ml169 (Nat.le_of_ble_eq_true rfl) rfl
theorem na170 : ip_na 170 = 1 := by decide +kernel
theorem rc170 : ip_rc 170 = 10 + 8 := by decide +kernel
theorem rk170 : ip_rk 170 = 0 := by decide +kernel
theorem ml170 : ip_ml 170 = 2 := by decide +kernel
theorem c170 {d : Nat} {n : Nat} {S : ip_S} {R : ip_R} {L : ip_S} {Q : Option Value → Nat → ip_S → ip_R → ip_S → Prop} {a0 : Nat} : ip_wc (d + 1) 170 [.ref a0] n S R L Q = ip_wp d 170 0 [some (.ref a0), none] [] n S R L Q := ip_wcE ml170 (Nat.le_of_ble_eq_true rfl) rfl
theorem na171 : ip_na 171 = 1 := by decide +kernel
theorem rc171 : ip_rc 171 = 10 + 8 := by decide +kernel
theorem rk171 : ip_rk 171 = 0 := by decide +kernel
theorem ml171 : ip_ml 171 = 3 := by decide +kernel
theorem c171 {d : Nat} {n : Nat} {S : ip_S} {R : ip_R} {L : ip_S} {Q : Option Value → Nat → ip_S → ip_R → ip_S → Prop} {a0 : Nat} : ip_wc (d + 1) 171 [.ref a0] n S R L Q = ip_wp d 171 0 [some (.ref a0), none, none] [] n S R L Q := ip_wcE ml171 (Nat.le_of_ble_eq_true rfl) rfl
theorem na172 : ip_na 172 = 1 := by decide +kernel
theorem rc172 : ip_rc 172 = 10 + 8 := by decide +kernel
theorem rk172 : ip_rk 172 = 0 := by decide +kernel
theorem ml172 : ip_ml 172 = 3 := by decide +kernel
theorem c172 {d : Nat} {n : Nat} {S : ip_S} {R : ip_R} {L : ip_S} {Q : Option Value → Nat → ip_S → ip_R → ip_S → Prop} {a0 : Nat} : ip_wc (d + 1) 172 [.ref a0] n S R L Q = ip_wp d 172 0 [some (.ref a0), none, none] [] n S R L Q := ip_wcE ml172 (Nat.le_of_ble_eq_true rfl) rfl
theorem na173 : ip_na 173 = 1 := by decide +kernel
theorem rc173 : ip_rc 173 = 10 + 8 := by decide +kernel
theorem rk173 : ip_rk 173 = 0 := by decide +kernel
theorem ml173 : ip_ml 173 = 4 := by decide +kernel
theorem c173 {d : Nat} {n : Nat} {S : ip_S} {R : ip_R} {L : ip_S} {Q : Option Value → Nat → ip_S → ip_R → ip_S → Prop} {a0 : Nat} : ip_wc (d + 1) 173 [.ref a0] n S R L Q = ip_wp d 173 0 [some (.ref a0), none, none, none] [] n S R L Q := ip_wcE ml173 (Nat.le_of_ble_eq_true rfl) rfl
theorem na174 : ip_na 174 = 1 := by decide +kernel
theorem rc174 : ip_rc 174 = 10 + 8 := by decide +kernel
theorem rk174 : ip_rk 174 = 0 := by decide +kernel
theorem ml174 : ip_ml 174 = 2 := by decide +kernel
theorem c174 {d : Nat} {n : Nat} {S : ip_S} {R : ip_R} {L : ip_S} {Q : Option Value → Nat → ip_S → ip_R → ip_S → Prop} {a0 : Nat} : ip_wc (d + 1) 174 [.ref a0] n S R L Q = ip_wp d 174 0 [some (.ref a0), none] [] n S R L Q := ip_wcE ml174 (Nat.le_of_ble_eq_true rfl) rfl
theorem na175 : ip_na 175 = 1 := by decide +kernel
theorem rc175 : ip_rc 175 = 10 + 8 := by decide +kernel
theorem rk175 : ip_rk 175 = 0 := by decide +kernel
theorem ml175 : ip_ml 175 = 2 := by decide +kernel
theorem c175 {d : Nat} {n : Nat} {S : ip_S} {R : ip_R} {L : ip_S} {Q : Option Value → Nat → ip_S → ip_R → ip_S → Prop} {a0 : Nat} : ip_wc (d + 1) 175 [.ref a0] n S R L Q = ip_wp d 175 0 [some (.ref a0), none] [] n S R L Q := ip_wcE ml175 (Nat.le_of_ble_eq_true rfl) rfl
theorem na176 : ip_na 176 = 1 := by decide +kernel
theorem rc176 : ip_rc 176 = 10 + 8 := by decide +kernel
theorem rk176 : ip_rk 176 = 0 := by decide +kernel
theorem ml176 : ip_ml 176 = 3 := by decide +kernel
theorem c176 {d : Nat} {n : Nat} {S : ip_S} {R : ip_R} {L : ip_S} {Q : Option Value → Nat → ip_S → ip_R → ip_S → Prop} {a0 : Nat} : ip_wc (d + 1) 176 [.ref a0] n S R L Q = ip_wp d 176 0 [some (.ref a0), none, none] [] n S R L Q := ip_wcE ml176 (Nat.le_of_ble_eq_true rfl) rfl
theorem na177 : ip_na 177 = 1 := by decide +kernel
theorem rc177 : ip_rc 177 = 10 + 8 := by decide +kernel
theorem rk177 : ip_rk 177 = 0 := by decide +kernel
theorem ml177 : ip_ml 177 = 3 := by decide +kernel
theorem c177 {d : Nat} {n : Nat} {S : ip_S} {R : ip_R} {L : ip_S} {Q : Option Value → Nat → ip_S → ip_R → ip_S → Prop} {a0 : Nat} : ip_wc (d + 1) 177 [.ref a0] n S R L Q = ip_wp d 177 0 [some (.ref a0), none, none] [] n S R L Q := ip_wcE ml177 (Nat.le_of_ble_eq_true rfl) rfl
theorem na178 : ip_na 178 = 1 := by decide +kernel
theorem rc178 : ip_rc 178 = 10 + 8 := by decide +kernel
theorem rk178 : ip_rk 178 = 0 := by decide +kernel
theorem ml178 : ip_ml 178 = 4 := by decide +kernel
theorem c178 {d : Nat} {n : Nat} {S : ip_S} {R : ip_R} {L : ip_S} {Q : Option Value → Nat → ip_S → ip_R → ip_S → Prop} {a0 : Nat} : ip_wc (d + 1) 178 [.ref a0] n S R L Q = ip_wp d 178 0 [some (.ref a0), none, none, none] [] n S R L Q := ip_wcE ml178 (Nat.le_of_ble_eq_true rfl) rfl
theorem na179 : ip_na 179 = 1 := by decide +kernel
theorem rc179 : ip_rc 179 = 10 + 8 := by decide +kernel
theorem rk179 : ip_rk 179 = 0 := by decide +kernel
theorem ml179 : ip_ml 179 = 2 := by decide +kernel
theorem c179 {d : Nat} {n : Nat} {S : ip_S} {R : ip_R} {L : ip_S} {Q : Option Value → Nat → ip_S → ip_R → ip_S → Prop} {a0 : Nat} : ip_wc (d + 1) 179 [.ref a0] n S R L Q = ip_wp d 179 0 [some (.ref a0), none] [] n S R L Q := ip_wcE ml179 (Nat.le_of_ble_eq_true rfl) rfl
theorem na180 : ip_na 180 = 1 := by decide +kernel
theorem rc180 : ip_rc 180 = 10 + 8 := by decide +kernel
theorem rk180 : ip_rk 180 = 0 := by decide +kernel
theorem ml180 : ip_ml 180 = 2 := by decide +kernel
theorem c180 {d : Nat} {n : Nat} {S : ip_S} {R : ip_R} {L : ip_S} {Q : Option Value → Nat → ip_S → ip_R → ip_S → Prop} {a0 : Nat} : ip_wc (d + 1) 180 [.ref a0] n S R L Q = ip_wp d 180 0 [some (.ref a0), none] [] n S R L Q := ip_wcE ml180 (Nat.le_of_ble_eq_true rfl) rfl
theorem na181 : ip_na 181 = 1 := by decide +kernel
theorem rc181 : ip_rc 181 = 10 + 8 := by decide +kernel
theorem rk181 : ip_rk 181 = 0 := by decide +kernel
theorem ml181 : ip_ml 181 = 3 := by decide +kernel
theorem c181 {d : Nat} {n : Nat} {S : ip_S} {R : ip_R} {L : ip_S} {Q : Option Value → Nat → ip_S → ip_R → ip_S → Prop} {a0 : Nat} : ip_wc (d + 1) 181 [.ref a0] n S R L Q = ip_wp d 181 0 [some (.ref a0), none, none] [] n S R L Q := ip_wcE ml181 (Nat.le_of_ble_eq_true rfl) rfl
theorem na182 : ip_na 182 = 1 := by decide +kernel
theorem rc182 : ip_rc 182 = 10 + 8 := by decide +kernel
theorem rk182 : ip_rk 182 = 0 := by decide +kernel
theorem ml182 : ip_ml 182 = 3 := by decide +kernel
theorem c182 {d : Nat} {n : Nat} {S : ip_S} {R : ip_R} {L : ip_S} {Q : Option Value → Nat → ip_S → ip_R → ip_S → Prop} {a0 : Nat} : ip_wc (d + 1) 182 [.ref a0] n S R L Q = ip_wp d 182 0 [some (.ref a0), none, none] [] n S R L Q := ip_wcE ml182 (Nat.le_of_ble_eq_true rfl) rfl
theorem na183 : ip_na 183 = 3 := by decide +kernel
theorem rc183 : ip_rc 183 = 0 := by decide +kernel
theorem rk183 : ip_rk 183 = 0 := by decide +kernel
theorem ml183 : ip_ml 183 = 3 := by decide +kernel
theorem c183 {d : Nat} {n : Nat} {S : ip_S} {R : ip_R} {L : ip_S} {Q : Option Value → Nat → ip_S → ip_R → ip_S → Prop} {a0 : Int32} {a1 : Int32} {a2 : Int32} : ip_wc (d + 1) 183 [.int a0, .int a1, .int a2] n S R L Q = ip_wp d 183 0 [some (.int a0), some (.int a1), some (.int a2)] [] n S R L Q := ip_wcE ml183 (Nat.le_of_ble_eq_true rfl) rfl
theorem na184 : ip_na 184 = 6 := by decide +kernel
theorem rc184 : ip_rc 184 = 10 + 8 := by decide +kernel
theorem rk184 : ip_rk 184 = 0 := by decide +kernel
theorem ml184 : ip_ml 184 = 8 := by decide +kernel
theorem c184 {d : Nat} {n : Nat} {S : ip_S} {R : ip_R} {L : ip_S} {Q : Option Value → Nat → ip_S → ip_R → ip_S → Prop} {a0 : Nat} {a1 : Int32} {a2 : Int32} {a3 : Int32} {a4 : Int32} {a5 : Int32} : ip_wc (d + 1) 184 [.ref a0, .int a1, .int a2, .int a3, .int a4, .int a5] n S R L Q = ip_wp d 184 0 [some (.ref a0), some (.int a1), some (.int a2), some (.int a3), some (.int a4), some (.int a5), none, none] [] n S R L Q := ip_wcE ml184 (Nat.le_of_ble_eq_true rfl) rfl
theorem na185 : ip_na 185 = 4 := by decide +kernel
theorem rc185 : ip_rc 185 = 10 + 8 := by decide +kernel
theorem rk185 : ip_rk 185 = 9 := by decide +kernel
theorem ml185 : ip_ml 185 = 4 := by decide +kernel
theorem c185 {d : Nat} {n : Nat} {S : ip_S} {R : ip_R} {L : ip_S} {Q : Option Value → Nat → ip_S → ip_R → ip_S → Prop} {a0 : Nat} {a1 : Int32} {a2 : Int32} {a3 : Int32} : ip_wc (d + 1) 185 [.ref a0, .int a1, .int a2, .int a3] n S R L Q = ip_wp d 185 0 [some (.ref a0), some (.int a1), some (.int a2), some (.int a3)] [] n S R L Q := ip_wcE ml185 (Nat.le_of_ble_eq_true rfl) rfl
theorem na186 : ip_na 186 = 4 := by decide +kernel
theorem rc186 : ip_rc 186 = 10 + 8 := by decide +kernel
theorem rk186 : ip_rk 186 = 0 := by decide +kernel
theorem ml186 : ip_ml 186 = 5 := by decide +kernel
theorem c186 {d : Nat} {n : Nat} {S : ip_S} {R : ip_R} {L : ip_S} {Q : Option Value → Nat → ip_S → ip_R → ip_S → Prop} {a0 : Nat} {a1 : Int32} {a2 : Int32} {a3 : Int32} : ip_wc (d + 1) 186 [.ref a0, .int a1, .int a2, .int a3] n S R L Q = ip_wp d 186 0 [some (.ref a0), some (.int a1), some (.int a2), some (.int a3), none] [] n S R L Q := ip_wcE ml186 (Nat.le_of_ble_eq_true rfl) rfl
theorem na187 : ip_na 187 = 1 := by decide +kernel
theorem rc187 : ip_rc 187 = 0 := by decide +kernel
theorem rk187 : ip_rk 187 = 1 := by decide +kernel
theorem ml187 : ip_ml 187 = 1 := by decide +kernel
theorem c187 {d : Nat} {n : Nat} {S : ip_S} {R : ip_R} {L : ip_S} {Q : Option Value → Nat → ip_S → ip_R → ip_S → Prop} {a0 : Int32} : ip_wc (d + 1) 187 [.int a0] n S R L Q = ip_wp d 187 0 [some (.int a0)] [] n S R L Q := ip_wcE ml187 (Nat.le_of_ble_eq_true rfl) rfl
theorem na188 : ip_na 188 = 4 := by decide +kernel
theorem rc188 : ip_rc 188 = 10 + 8 := by decide +kernel
theorem rk188 : ip_rk 188 = 9 := by decide +kernel
theorem ml188 : ip_ml 188 = 4 := by decide +kernel
theorem c188 {d : Nat} {n : Nat} {S : ip_S} {R : ip_R} {L : ip_S} {Q : Option Value → Nat → ip_S → ip_R → ip_S → Prop} {a0 : Nat} {a1 : Int32} {a2 : Int32} {a3 : Int32} : ip_wc (d + 1) 188 [.ref a0, .int a1, .int a2, .int a3] n S R L Q = ip_wp d 188 0 [some (.ref a0), some (.int a1), some (.int a2), some (.int a3)] [] n S R L Q := ip_wcE ml188 (Nat.le_of_ble_eq_true rfl) rfl
theorem na189 : ip_na 189 = 4 := by decide +kernel
theorem rc189 : ip_rc 189 = 10 + 8 := by decide +kernel
theorem rk189 : ip_rk 189 = 0 := by decide +kernel
theorem ml189 : ip_ml 189 = 4 := by decide +kernel
theorem c189 {d : Nat} {n : Nat} {S : ip_S} {R : ip_R} {L : ip_S} {Q : Option Value → Nat → ip_S → ip_R → ip_S → Prop} {a0 : Nat} {a1 : Int32} {a2 : Int32} {a3 : Int32} : ip_wc (d + 1) 189 [.ref a0, .int a1, .int a2, .int a3] n S R L Q = ip_wp d 189 0 [some (.ref a0), some (.int a1), some (.int a2), some (.int a3)] [] n S R L Q := ip_wcE ml189 (Nat.le_of_ble_eq_true rfl) rfl
theorem na190 : ip_na 190 = 2 := by decide +kernel
theorem rc190 : ip_rc 190 = 10 + 8 := by decide +kernel
theorem rk190 : ip_rk 190 = 0 := by decide +kernel
theorem ml190 : ip_ml 190 = 2 := by decide +kernel
theorem c190 {d : Nat} {n : Nat} {S : ip_S} {R : ip_R} {L : ip_S} {Q : Option Value → Nat → ip_S → ip_R → ip_S → Prop} {a0 : Nat} {a1 : Int32} : ip_wc (d + 1) 190 [.ref a0, .int a1] n S R L Q = ip_wp d 190 0 [some (.ref a0), some (.int a1)] [] n S R L Q := ip_wcE ml190 (Nat.le_of_ble_eq_true rfl) rfl
theorem na191 : ip_na 191 = 1 := by decide +kernel
theorem rc191 : ip_rc 191 = 10 + 8 := by decide +kernel
theorem rk191 : ip_rk 191 = 0 := by decide +kernel
theorem ml191 : ip_ml 191 = 2 := by decide +kernel
theorem c191 {d : Nat} {n : Nat} {S : ip_S} {R : ip_R} {L : ip_S} {Q : Option Value → Nat → ip_S → ip_R → ip_S → Prop} {a0 : Nat} : ip_wc (d + 1) 191 [.ref a0] n S R L Q = ip_wp d 191 0 [some (.ref a0), none] [] n S R L Q := ip_wcE ml191 (Nat.le_of_ble_eq_true rfl) rfl
theorem na192 : ip_na 192 = 2 := by decide +kernel
theorem rc192 : ip_rc 192 = 10 + 8 := by decide +kernel
theorem rk192 : ip_rk 192 = 0 := by decide +kernel
theorem ml192 : ip_ml 192 = 3 := by decide +kernel
theorem c192 {d : Nat} {n : Nat} {S : ip_S} {R : ip_R} {L : ip_S} {Q : Option Value → Nat → ip_S → ip_R → ip_S → Prop} {a0 : Nat} {a1 : Int32} : ip_wc (d + 1) 192 [.ref a0, .int a1] n S R L Q = ip_wp d 192 0 [some (.ref a0), some (.int a1), none] [] n S R L Q := ip_wcE ml192 (Nat.le_of_ble_eq_true rfl) rfl
theorem na193 : ip_na 193 = 6 := by decide +kernel
theorem rc193 : ip_rc 193 = 10 + 8 := by decide +kernel
theorem rk193 : ip_rk 193 = 0 := by decide +kernel
theorem ml193 : ip_ml 193 = 6 := by decide +kernel
theorem c193 {d : Nat} {n : Nat} {S : ip_S} {R : ip_R} {L : ip_S} {Q : Option Value → Nat → ip_S → ip_R → ip_S → Prop} {a0 : Nat} {a1 : Int32} {a2 : Int32} {a3 : Int32} {a4 : Int32} {a5 : Int32} : ip_wc (d + 1) 193 [.ref a0, .int a1, .int a2, .int a3, .int a4, .int a5] n S R L Q = ip_wp d 193 0 [some (.ref a0), some (.int a1), some (.int a2), some (.int a3), some (.int a4), some (.int a5)] [] n S R L Q := ip_wcE ml193 (Nat.le_of_ble_eq_true rfl) rfl
theorem na194 : ip_na 194 = 3 := by decide +kernel
theorem rc194 : ip_rc 194 = 10 + 8 := by decide +kernel
theorem rk194 : ip_rk 194 = 1 := by decide +kernel
theorem ml194 : ip_ml 194 = 3 := by decide +kernel
theorem c194 {d : Nat} {n : Nat} {S : ip_S} {R : ip_R} {L : ip_S} {Q : Option Value → Nat → ip_S → ip_R → ip_S → Prop} {a0 : Nat} {a1 : Int32} {a2 : Int32} : ip_wc (d + 1) 194 [.ref a0, .int a1, .int a2] n S R L Q = ip_wp d 194 0 [some (.ref a0), some (.int a1), some (.int a2)] [] n S R L Q := ip_wcE ml194 (Nat.le_of_ble_eq_true rfl) rfl
theorem na195 : ip_na 195 = 5 := by decide +kernel
theorem rc195 : ip_rc 195 = 10 + 8 := by decide +kernel
theorem rk195 : ip_rk 195 = 0 := by decide +kernel
theorem ml195 : ip_ml 195 = 5 := by decide +kernel
theorem c195 {d : Nat} {n : Nat} {S : ip_S} {R : ip_R} {L : ip_S} {Q : Option Value → Nat → ip_S → ip_R → ip_S → Prop} {a0 : Nat} {a1 : Int32} {a2 : Int32} {a3 : Int32} {a4 : Int32} : ip_wc (d + 1) 195 [.ref a0, .int a1, .int a2, .int a3, .int a4] n S R L Q = ip_wp d 195 0 [some (.ref a0), some (.int a1), some (.int a2), some (.int a3), some (.int a4)] [] n S R L Q := ip_wcE ml195 (Nat.le_of_ble_eq_true rfl) rfl
theorem na196 : ip_na 196 = 6 := by decide +kernel
theorem rc196 : ip_rc 196 = 10 + 8 := by decide +kernel
theorem rk196 : ip_rk 196 = 1 := by decide +kernel
theorem ml196 : ip_ml 196 = 8 := by decide +kernel
theorem c196 {d : Nat} {n : Nat} {S : ip_S} {R : ip_R} {L : ip_S} {Q : Option Value → Nat → ip_S → ip_R → ip_S → Prop} {a0 : Nat} {a1 : Int32} {a2 : Int32} {a3 : Int32} {a4 : Int32} {a5 : Int32} : ip_wc (d + 1) 196 [.ref a0, .int a1, .int a2, .int a3, .int a4, .int a5] n S R L Q = ip_wp d 196 0 [some (.ref a0), some (.int a1), some (.int a2), some (.int a3), some (.int a4), some (.int a5), none, none] [] n S R L Q := ip_wcE ml196 (Nat.le_of_ble_eq_true rfl) rfl
theorem na197 : ip_na 197 = 5 := by decide +kernel
theorem rc197 : ip_rc 197 = 10 + 8 := by decide +kernel
theorem rk197 : ip_rk 197 = 0 := by decide +kernel
theorem ml197 : ip_ml 197 = 5 := by decide +kernel
theorem c197 {d : Nat} {n : Nat} {S : ip_S} {R : ip_R} {L : ip_S} {Q : Option Value → Nat → ip_S → ip_R → ip_S → Prop} {a0 : Nat} {a1 : Int32} {a2 : Int32} {a3 : Int32} {a4 : Int32} : ip_wc (d + 1) 197 [.ref a0, .int a1, .int a2, .int a3, .int a4] n S R L Q = ip_wp d 197 0 [some (.ref a0), some (.int a1), some (.int a2), some (.int a3), some (.int a4)] [] n S R L Q := ip_wcE ml197 (Nat.le_of_ble_eq_true rfl) rfl
theorem na198 : ip_na 198 = 4 := by decide +kernel
theorem rc198 : ip_rc 198 = 10 + 8 := by decide +kernel
theorem rk198 : ip_rk 198 = 9 := by decide +kernel
theorem ml198 : ip_ml 198 = 9 := by decide +kernel
theorem c198 {d : Nat} {n : Nat} {S : ip_S} {R : ip_R} {L : ip_S} {Q : Option Value → Nat → ip_S → ip_R → ip_S → Prop} {a0 : Nat} {a1 : Int32} {a2 : Int32} {a3 : Int32} : ip_wc (d + 1) 198 [.ref a0, .int a1, .int a2, .int a3] n S R L Q = ip_wp d 198 0 [some (.ref a0), some (.int a1), some (.int a2), some (.int a3), none, none, none, none, none] [] n S R L Q := ip_wcE ml198 (Nat.le_of_ble_eq_true rfl) rfl
theorem na199 : ip_na 199 = 3 := by decide +kernel
theorem rc199 : ip_rc 199 = 10 + 8 := by decide +kernel
theorem rk199 : ip_rk 199 = 0 := by decide +kernel
theorem ml199 : ip_ml 199 = 8 := by decide +kernel
theorem c199 {d : Nat} {n : Nat} {S : ip_S} {R : ip_R} {L : ip_S} {Q : Option Value → Nat → ip_S → ip_R → ip_S → Prop} {a0 : Nat} {a1 : Int32} {a2 : Int32} : ip_wc (d + 1) 199 [.ref a0, .int a1, .int a2] n S R L Q = ip_wp d 199 0 [some (.ref a0), some (.int a1), some (.int a2), none, none, none, none, none] [] n S R L Q := ip_wcE ml199 (Nat.le_of_ble_eq_true rfl) rfl
theorem na200 : ip_na 200 = 2 := by decide +kernel
theorem rc200 : ip_rc 200 = 10 + 8 := by decide +kernel
theorem rk200 : ip_rk 200 = 0 := by decide +kernel
theorem ml200 : ip_ml 200 = 2 := by decide +kernel
theorem c200 {d : Nat} {n : Nat} {S : ip_S} {R : ip_R} {L : ip_S} {Q : Option Value → Nat → ip_S → ip_R → ip_S → Prop} {a0 : Nat} {a1 : Int32} : ip_wc (d + 1) 200 [.ref a0, .int a1] n S R L Q = ip_wp d 200 0 [some (.ref a0), some (.int a1)] [] n S R L Q := ip_wcE ml200 (Nat.le_of_ble_eq_true rfl) rfl
theorem na201 : ip_na 201 = 1 := by decide +kernel
theorem rc201 : ip_rc 201 = 10 + 8 := by decide +kernel
theorem rk201 : ip_rk 201 = 0 := by decide +kernel
theorem ml201 : ip_ml 201 = 3 := by decide +kernel
theorem c201 {d : Nat} {n : Nat} {S : ip_S} {R : ip_R} {L : ip_S} {Q : Option Value → Nat → ip_S → ip_R → ip_S → Prop} {a0 : Nat} : ip_wc (d + 1) 201 [.ref a0] n S R L Q = ip_wp d 201 0 [some (.ref a0), none, none] [] n S R L Q := ip_wcE ml201 (Nat.le_of_ble_eq_true rfl) rfl
theorem na202 : ip_na 202 = 1 := by decide +kernel
theorem rc202 : ip_rc 202 = 0 := by decide +kernel
theorem rk202 : ip_rk 202 = 0 := by decide +kernel
theorem ml202 : ip_ml 202 = 3 := by decide +kernel
theorem c202 {d : Nat} {n : Nat} {S : ip_S} {R : ip_R} {L : ip_S} {Q : Option Value → Nat → ip_S → ip_R → ip_S → Prop} {a0 : Int32} : ip_wc (d + 1) 202 [.int a0] n S R L Q = ip_wp d 202 0 [some (.int a0), none, none] [] n S R L Q := ip_wcE ml202 (Nat.le_of_ble_eq_true rfl) rfl
theorem na203 : ip_na 203 = 4 := by decide +kernel
theorem rc203 : ip_rc 203 = 10 + 8 := by decide +kernel
theorem rk203 : ip_rk 203 = 0 := by decide +kernel
theorem ml203 : ip_ml 203 = 5 := by decide +kernel
theorem c203 {d : Nat} {n : Nat} {S : ip_S} {R : ip_R} {L : ip_S} {Q : Option Value → Nat → ip_S → ip_R → ip_S → Prop} {a0 : Nat} {a1 : Int32} {a2 : Int32} {a3 : Int32} : ip_wc (d + 1) 203 [.ref a0, .int a1, .int a2, .int a3] n S R L Q = ip_wp d 203 0 [some (.ref a0), some (.int a1), some (.int a2), some (.int a3), none] [] n S R L Q := ip_wcE ml203 (Nat.le_of_ble_eq_true rfl) rfl
theorem na204 : ip_na 204 = 4 := by decide +kernel
theorem rc204 : ip_rc 204 = 10 + 8 := by decide +kernel
theorem rk204 : ip_rk 204 = 0 := by decide +kernel
theorem ml204 : ip_ml 204 = 4 := by decide +kernel
theorem c204 {d : Nat} {n : Nat} {S : ip_S} {R : ip_R} {L : ip_S} {Q : Option Value → Nat → ip_S → ip_R → ip_S → Prop} {a0 : Nat} {a1 : Int32} {a2 : Int32} {a3 : Int32} : ip_wc (d + 1) 204 [.ref a0, .int a1, .int a2, .int a3] n S R L Q = ip_wp d 204 0 [some (.ref a0), some (.int a1), some (.int a2), some (.int a3)] [] n S R L Q := ip_wcE ml204 (Nat.le_of_ble_eq_true rfl) rfl
theorem na205 : ip_na 205 = 3 := by decide +kernel
theorem rc205 : ip_rc 205 = 10 + 8 := by decide +kernel
theorem rk205 : ip_rk 205 = 0 := by decide +kernel
theorem ml205 : ip_ml 205 = 4 := by decide +kernel
theorem c205 {d : Nat} {n : Nat} {S : ip_S} {R : ip_R} {L : ip_S} {Q : Option Value → Nat → ip_S → ip_R → ip_S → Prop} {a0 : Nat} {a1 : Int32} {a2 : Int32} : ip_wc (d + 1) 205 [.ref a0, .int a1, .int a2] n S R L Q = ip_wp d 205 0 [some (.ref a0), some (.int a1), some (.int a2), none] [] n S R L Q := ip_wcE ml205 (Nat.le_of_ble_eq_true rfl) rfl
theorem na206 : ip_na 206 = 4 := by decide +kernel
theorem rc206 : ip_rc 206 = 10 + 8 := by decide +kernel
theorem rk206 : ip_rk 206 = 0 := by decide +kernel
theorem ml206 : ip_ml 206 = 7 := by decide +kernel
theorem c206 {d : Nat} {n : Nat} {S : ip_S} {R : ip_R} {L : ip_S} {Q : Option Value → Nat → ip_S → ip_R → ip_S → Prop} {a0 : Nat} {a1 : Int32} {a2 : Int32} {a3 : Int32} : ip_wc (d + 1) 206 [.ref a0, .int a1, .int a2, .int a3] n S R L Q = ip_wp d 206 0 [some (.ref a0), some (.int a1), some (.int a2), some (.int a3), none, none, none] [] n S R L Q := ip_wcE ml206 (Nat.le_of_ble_eq_true rfl) rfl
theorem na207 : ip_na 207 = 4 := by decide +kernel
theorem rc207 : ip_rc 207 = 10 + 8 := by decide +kernel
theorem rk207 : ip_rk 207 = 0 := by decide +kernel
theorem ml207 : ip_ml 207 = 4 := by decide +kernel
theorem c207 {d : Nat} {n : Nat} {S : ip_S} {R : ip_R} {L : ip_S} {Q : Option Value → Nat → ip_S → ip_R → ip_S → Prop} {a0 : Nat} {a1 : Int32} {a2 : Int32} {a3 : Int32} : ip_wc (d + 1) 207 [.ref a0, .int a1, .int a2, .int a3] n S R L Q = ip_wp d 207 0 [some (.ref a0), some (.int a1), some (.int a2), some (.int a3)] [] n S R L Q := ip_wcE ml207 (Nat.le_of_ble_eq_true rfl) rfl
theorem na208 : ip_na 208 = 3 := by decide +kernel
theorem rc208 : ip_rc 208 = 10 + 8 := by decide +kernel
theorem rk208 : ip_rk 208 = 0 := by decide +kernel
theorem ml208 : ip_ml 208 = 5 := by decide +kernel
theorem c208 {d : Nat} {n : Nat} {S : ip_S} {R : ip_R} {L : ip_S} {Q : Option Value → Nat → ip_S → ip_R → ip_S → Prop} {a0 : Nat} {a1 : Int32} {a2 : Int32} : ip_wc (d + 1) 208 [.ref a0, .int a1, .int a2] n S R L Q = ip_wp d 208 0 [some (.ref a0), some (.int a1), some (.int a2), none, none] [] n S R L Q := ip_wcE ml208 (Nat.le_of_ble_eq_true rfl) rfl
theorem na209 : ip_na 209 = 3 := by decide +kernel
theorem rc209 : ip_rc 209 = 10 + 8 := by decide +kernel
theorem rk209 : ip_rk 209 = 0 := by decide +kernel
theorem ml209 : ip_ml 209 = 5 := by decide +kernel
theorem c209 {d : Nat} {n : Nat} {S : ip_S} {R : ip_R} {L : ip_S} {Q : Option Value → Nat → ip_S → ip_R → ip_S → Prop} {a0 : Nat} {a1 : Int32} {a2 : Int32} : ip_wc (d + 1) 209 [.ref a0, .int a1, .int a2] n S R L Q = ip_wp d 209 0 [some (.ref a0), some (.int a1), some (.int a2), none, none] [] n S R L Q := ip_wcE ml209 (Nat.le_of_ble_eq_true rfl) rfl
theorem na210 : ip_na 210 = 4 := by decide +kernel
theorem rc210 : ip_rc 210 = 10 + 8 := by decide +kernel
theorem rk210 : ip_rk 210 = 9 := by decide +kernel
theorem ml210 : ip_ml 210 = 7 := by decide +kernel
theorem c210 {d : Nat} {n : Nat} {S : ip_S} {R : ip_R} {L : ip_S} {Q : Option Value → Nat → ip_S → ip_R → ip_S → Prop} {a0 : Nat} {a1 : Int32} {a2 : Int32} {a3 : Int32} : ip_wc (d + 1) 210 [.ref a0, .int a1, .int a2, .int a3] n S R L Q = ip_wp d 210 0 [some (.ref a0), some (.int a1), some (.int a2), some (.int a3), none, none, none] [] n S R L Q := ip_wcE ml210 (Nat.le_of_ble_eq_true rfl) rfl
theorem na211 : ip_na 211 = 3 := by decide +kernel
theorem rc211 : ip_rc 211 = 10 + 8 := by decide +kernel
theorem rk211 : ip_rk 211 = 9 := by decide +kernel
theorem ml211 : ip_ml 211 = 3 := by decide +kernel
theorem c211 {d : Nat} {n : Nat} {S : ip_S} {R : ip_R} {L : ip_S} {Q : Option Value → Nat → ip_S → ip_R → ip_S → Prop} {a0 : Nat} {a1 : Int32} {a2 : Int32} : ip_wc (d + 1) 211 [.ref a0, .int a1, .int a2] n S R L Q = ip_wp d 211 0 [some (.ref a0), some (.int a1), some (.int a2)] [] n S R L Q := ip_wcE ml211 (Nat.le_of_ble_eq_true rfl) rfl
theorem na212 : ip_na 212 = 2 := by decide +kernel
theorem rc212 : ip_rc 212 = 10 + 8 := by decide +kernel
theorem rk212 : ip_rk 212 = 0 := by decide +kernel
theorem ml212 : ip_ml 212 = 3 := by decide +kernel
theorem c212 {d : Nat} {n : Nat} {S : ip_S} {R : ip_R} {L : ip_S} {Q : Option Value → Nat → ip_S → ip_R → ip_S → Prop} {a0 : Nat} {a1 : Int32} : ip_wc (d + 1) 212 [.ref a0, .int a1] n S R L Q = ip_wp d 212 0 [some (.ref a0), some (.int a1), none] [] n S R L Q := ip_wcE ml212 (Nat.le_of_ble_eq_true rfl) rfl
theorem na213 : ip_na 213 = 5 := by decide +kernel
theorem rc213 : ip_rc 213 = 10 + 8 := by decide +kernel
theorem rk213 : ip_rk 213 = 0 := by decide +kernel
theorem ml213 : ip_ml 213 = 10 := by decide +kernel
theorem c213 {d : Nat} {n : Nat} {S : ip_S} {R : ip_R} {L : ip_S} {Q : Option Value → Nat → ip_S → ip_R → ip_S → Prop} {a0 : Nat} {a1 : Int32} {a2 : Int32} {a3 : Int32} {a4 : Int32} : ip_wc (d + 1) 213 [.ref a0, .int a1, .int a2, .int a3, .int a4] n S R L Q = ip_wp d 213 0 [some (.ref a0), some (.int a1), some (.int a2), some (.int a3), some (.int a4), none, none, none, none, none] [] n S R L Q := ip_wcE ml213 (Nat.le_of_ble_eq_true rfl) rfl
theorem na214 : ip_na 214 = 5 := by decide +kernel
theorem rc214 : ip_rc 214 = 10 + 8 := by decide +kernel
theorem rk214 : ip_rk 214 = 0 := by decide +kernel
theorem ml214 : ip_ml 214 = 12 := by decide +kernel
theorem c214 {d : Nat} {n : Nat} {S : ip_S} {R : ip_R} {L : ip_S} {Q : Option Value → Nat → ip_S → ip_R → ip_S → Prop} {a0 : Nat} {a1 : Int32} {a2 : Int32} {a3 : Int32} {a4 : Int32} : ip_wc (d + 1) 214 [.ref a0, .int a1, .int a2, .int a3, .int a4] n S R L Q = ip_wp d 214 0 [some (.ref a0), some (.int a1), some (.int a2), some (.int a3), some (.int a4), none, none, none, none, none, none, none] [] n S R L Q := ip_wcE ml214 (Nat.le_of_ble_eq_true rfl) rfl
theorem na215 : ip_na 215 = 1 := by decide +kernel
theorem rc215 : ip_rc 215 = 0 := by decide +kernel
theorem rk215 : ip_rk 215 = 1 := by decide +kernel
theorem ml215 : ip_ml 215 = 1 := by decide +kernel
theorem c215 {d : Nat} {n : Nat} {S : ip_S} {R : ip_R} {L : ip_S} {Q : Option Value → Nat → ip_S → ip_R → ip_S → Prop} {a0 : Int32} : ip_wc (d + 1) 215 [.int a0] n S R L Q = ip_wp d 215 0 [some (.int a0)] [] n S R L Q := ip_wcE ml215 (Nat.le_of_ble_eq_true rfl) rfl
theorem na216 : ip_na 216 = 2 := by decide +kernel
theorem rc216 : ip_rc 216 = 10 + 8 := by decide +kernel
theorem rk216 : ip_rk 216 = 1 := by decide +kernel
theorem ml216 : ip_ml 216 = 2 := by decide +kernel
theorem c216 {d : Nat} {n : Nat} {S : ip_S} {R : ip_R} {L : ip_S} {Q : Option Value → Nat → ip_S → ip_R → ip_S → Prop} {a0 : Nat} {a1 : Int32} : ip_wc (d + 1) 216 [.ref a0, .int a1] n S R L Q = ip_wp d 216 0 [some (.ref a0), some (.int a1)] [] n S R L Q := ip_wcE ml216 (Nat.le_of_ble_eq_true rfl) rfl
theorem na217 : ip_na 217 = 5 := by decide +kernel
theorem rc217 : ip_rc 217 = 10 + 8 := by decide +kernel
theorem rk217 : ip_rk 217 = 0 := by decide +kernel
theorem ml217 : ip_ml 217 = 6 := by decide +kernel
theorem c217 {d : Nat} {n : Nat} {S : ip_S} {R : ip_R} {L : ip_S} {Q : Option Value → Nat → ip_S → ip_R → ip_S → Prop} {a0 : Nat} {a1 : Int32} {a2 : Int32} {a3 : Int32} {a4 : Int32} : ip_wc (d + 1) 217 [.ref a0, .int a1, .int a2, .int a3, .int a4] n S R L Q = ip_wp d 217 0 [some (.ref a0), some (.int a1), some (.int a2), some (.int a3), some (.int a4), none] [] n S R L Q := ip_wcE ml217 (Nat.le_of_ble_eq_true rfl) rfl
theorem na218 : ip_na 218 = 4 := by decide +kernel
theorem rc218 : ip_rc 218 = 10 + 8 := by decide +kernel
theorem rk218 : ip_rk 218 = 0 := by decide +kernel
theorem ml218 : ip_ml 218 = 6 := by decide +kernel
theorem c218 {d : Nat} {n : Nat} {S : ip_S} {R : ip_R} {L : ip_S} {Q : Option Value → Nat → ip_S → ip_R → ip_S → Prop} {a0 : Nat} {a1 : Int32} {a2 : Int32} {a3 : Int32} : ip_wc (d + 1) 218 [.ref a0, .int a1, .int a2, .int a3] n S R L Q = ip_wp d 218 0 [some (.ref a0), some (.int a1), some (.int a2), some (.int a3), none, none] [] n S R L Q := ip_wcE ml218 (Nat.le_of_ble_eq_true rfl) rfl
theorem na219 : ip_na 219 = 5 := by decide +kernel
theorem rc219 : ip_rc 219 = 10 + 8 := by decide +kernel
theorem rk219 : ip_rk 219 = 0 := by decide +kernel
theorem ml219 : ip_ml 219 = 6 := by decide +kernel
theorem c219 {d : Nat} {n : Nat} {S : ip_S} {R : ip_R} {L : ip_S} {Q : Option Value → Nat → ip_S → ip_R → ip_S → Prop} {a0 : Nat} {a1 : Int32} {a2 : Int32} {a3 : Int32} {a4 : Int32} : ip_wc (d + 1) 219 [.ref a0, .int a1, .int a2, .int a3, .int a4] n S R L Q = ip_wp d 219 0 [some (.ref a0), some (.int a1), some (.int a2), some (.int a3), some (.int a4), none] [] n S R L Q := ip_wcE ml219 (Nat.le_of_ble_eq_true rfl) rfl
theorem na220 : ip_na 220 = 4 := by decide +kernel
theorem rc220 : ip_rc 220 = 10 + 8 := by decide +kernel
theorem rk220 : ip_rk 220 = 0 := by decide +kernel
theorem ml220 : ip_ml 220 = 5 := by decide +kernel
theorem c220 {d : Nat} {n : Nat} {S : ip_S} {R : ip_R} {L : ip_S} {Q : Option Value → Nat → ip_S → ip_R → ip_S → Prop} {a0 : Nat} {a1 : Int32} {a2 : Int32} {a3 : Int32} : ip_wc (d + 1) 220 [.ref a0, .int a1, .int a2, .int a3] n S R L Q = ip_wp d 220 0 [some (.ref a0), some (.int a1), some (.int a2), some (.int a3), none] [] n S R L Q := ip_wcE ml220 (Nat.le_of_ble_eq_true rfl) rfl
theorem na221 : ip_na 221 = 4 := by decide +kernel
theorem rc221 : ip_rc 221 = 10 + 8 := by decide +kernel
theorem rk221 : ip_rk 221 = 0 := by decide +kernel
theorem ml221 : ip_ml 221 = 5 := by decide +kernel
theorem c221 {d : Nat} {n : Nat} {S : ip_S} {R : ip_R} {L : ip_S} {Q : Option Value → Nat → ip_S → ip_R → ip_S → Prop} {a0 : Nat} {a1 : Int32} {a2 : Int32} {a3 : Int32} : ip_wc (d + 1) 221 [.ref a0, .int a1, .int a2, .int a3] n S R L Q = ip_wp d 221 0 [some (.ref a0), some (.int a1), some (.int a2), some (.int a3), none] [] n S R L Q := ip_wcE ml221 (Nat.le_of_ble_eq_true rfl) rfl
theorem na222 : ip_na 222 = 2 := by decide +kernel
theorem rc222 : ip_rc 222 = 10 + 8 := by decide +kernel
theorem rk222 : ip_rk 222 = 9 := by decide +kernel
theorem ml222 : ip_ml 222 = 4 := by decide +kernel
theorem c222 {d : Nat} {n : Nat} {S : ip_S} {R : ip_R} {L : ip_S} {Q : Option Value → Nat → ip_S → ip_R → ip_S → Prop} {a0 : Nat} {a1 : Int32} : ip_wc (d + 1) 222 [.ref a0, .int a1] n S R L Q = ip_wp d 222 0 [some (.ref a0), some (.int a1), none, none] [] n S R L Q := ip_wcE ml222 (Nat.le_of_ble_eq_true rfl) rfl
theorem na223 : ip_na 223 = 1 := by decide +kernel
theorem rc223 : ip_rc 223 = 10 + 8 := by decide +kernel
theorem rk223 : ip_rk 223 = 9 := by decide +kernel
theorem ml223 : ip_ml 223 = 2 := by decide +kernel
theorem c223 {d : Nat} {n : Nat} {S : ip_S} {R : ip_R} {L : ip_S} {Q : Option Value → Nat → ip_S → ip_R → ip_S → Prop} {a0 : Nat} : ip_wc (d + 1) 223 [.ref a0] n S R L Q = ip_wp d 223 0 [some (.ref a0), none] [] n S R L Q := ip_wcE ml223 (Nat.le_of_ble_eq_true rfl) rfl
theorem na224 : ip_na 224 = 5 := by decide +kernel
theorem rc224 : ip_rc 224 = 10 + 8 := by decide +kernel
theorem rk224 : ip_rk 224 = 4 := by decide +kernel
theorem ml224 : ip_ml 224 = 13 := by decide +kernel
theorem c224 {d : Nat} {n : Nat} {S : ip_S} {R : ip_R} {L : ip_S} {Q : Option Value → Nat → ip_S → ip_R → ip_S → Prop} {a0 : Nat} {a1 : Int32} {a2 : Int32} {a3 : Int32} {a4 : Int32} : ip_wc (d + 1) 224 [.ref a0, .int a1, .int a2, .int a3, .int a4] n S R L Q = ip_wp d 224 0 [some (.ref a0), some (.int a1), some (.int a2), some (.int a3), some (.int a4), none, none, none, none, none, none, none, none] [] n S R L Q := ip_wcE ml224 (Nat.le_of_ble_eq_true rfl) rfl
theorem na225 : ip_na 225 = 1 := by decide +kernel
theorem rc225 : ip_rc 225 = 10 + 8 := by decide +kernel
theorem rk225 : ip_rk 225 = 0 := by decide +kernel
theorem ml225 : ip_ml 225 = 2 := by decide +kernel
theorem c225 {d : Nat} {n : Nat} {S : ip_S} {R : ip_R} {L : ip_S} {Q : Option Value → Nat → ip_S → ip_R → ip_S → Prop} {a0 : Nat} : ip_wc (d + 1) 225 [.ref a0] n S R L Q = ip_wp d 225 0 [some (.ref a0), none] [] n S R L Q := ip_wcE ml225 (Nat.le_of_ble_eq_true rfl) rfl
theorem na226 : ip_na 226 = 1 := by decide +kernel
theorem rc226 : ip_rc 226 = 10 + 8 := by decide +kernel
theorem rk226 : ip_rk 226 = 0 := by decide +kernel
theorem ml226 : ip_ml 226 = 2 := by decide +kernel
theorem c226 {d : Nat} {n : Nat} {S : ip_S} {R : ip_R} {L : ip_S} {Q : Option Value → Nat → ip_S → ip_R → ip_S → Prop} {a0 : Nat} : ip_wc (d + 1) 226 [.ref a0] n S R L Q = ip_wp d 226 0 [some (.ref a0), none] [] n S R L Q := ip_wcE ml226 (Nat.le_of_ble_eq_true rfl) rfl
theorem na227 : ip_na 227 = 2 := by decide +kernel
theorem rc227 : ip_rc 227 = 10 + 8 := by decide +kernel
theorem rk227 : ip_rk 227 = 0 := by decide +kernel
theorem ml227 : ip_ml 227 = 4 := by decide +kernel
theorem c227 {d : Nat} {n : Nat} {S : ip_S} {R : ip_R} {L : ip_S} {Q : Option Value → Nat → ip_S → ip_R → ip_S → Prop} {a0 : Nat} {a1 : Int32} : ip_wc (d + 1) 227 [.ref a0, .int a1] n S R L Q = ip_wp d 227 0 [some (.ref a0), some (.int a1), none, none] [] n S R L Q := ip_wcE ml227 (Nat.le_of_ble_eq_true rfl) rfl
theorem na228 : ip_na 228 = 4 := by decide +kernel
theorem rc228 : ip_rc 228 = 10 + 8 := by decide +kernel
theorem rk228 : ip_rk 228 = 0 := by decide +kernel
theorem ml228 : ip_ml 228 = 4 := by decide +kernel
theorem c228 {d : Nat} {n : Nat} {S : ip_S} {R : ip_R} {L : ip_S} {Q : Option Value → Nat → ip_S → ip_R → ip_S → Prop} {a0 : Nat} {a1 : Int32} {a2 : Int32} {a3 : Int32} : ip_wc (d + 1) 228 [.ref a0, .int a1, .int a2, .int a3] n S R L Q = ip_wp d 228 0 [some (.ref a0), some (.int a1), some (.int a2), some (.int a3)] [] n S R L Q := ip_wcE ml228 (Nat.le_of_ble_eq_true rfl) rfl
theorem na229 : ip_na 229 = 6 := by decide +kernel
theorem rc229 : ip_rc 229 = 10 + 8 := by decide +kernel
theorem rk229 : ip_rk 229 = 0 := by decide +kernel
theorem ml229 : ip_ml 229 = 9 := by decide +kernel
theorem c229 {d : Nat} {n : Nat} {S : ip_S} {R : ip_R} {L : ip_S} {Q : Option Value → Nat → ip_S → ip_R → ip_S → Prop} {a0 : Nat} {a1 : Int32} {a2 : Int32} {a3 : Int32} {a4 : Int32} {a5 : Int32} : ip_wc (d + 1) 229 [.ref a0, .int a1, .int a2, .int a3, .int a4, .int a5] n S R L Q = ip_wp d 229 0 [some (.ref a0), some (.int a1), some (.int a2), some (.int a3), some (.int a4), some (.int a5), none, none, none] [] n S R L Q := ip_wcE ml229 (Nat.le_of_ble_eq_true rfl) rfl
theorem na230 : ip_na 230 = 5 := by decide +kernel
theorem rc230 : ip_rc 230 = 10 + 8 := by decide +kernel
theorem rk230 : ip_rk 230 = 0 := by decide +kernel
theorem ml230 : ip_ml 230 = 8 := by decide +kernel
theorem c230 {d : Nat} {n : Nat} {S : ip_S} {R : ip_R} {L : ip_S} {Q : Option Value → Nat → ip_S → ip_R → ip_S → Prop} {a0 : Nat} {a1 : Int32} {a2 : Int32} {a3 : Int32} {a4 : Int32} : ip_wc (d + 1) 230 [.ref a0, .int a1, .int a2, .int a3, .int a4] n S R L Q = ip_wp d 230 0 [some (.ref a0), some (.int a1), some (.int a2), some (.int a3), some (.int a4), none, none, none] [] n S R L Q := ip_wcE ml230 (Nat.le_of_ble_eq_true rfl) rfl
theorem na231 : ip_na 231 = 3 := by decide +kernel
theorem rc231 : ip_rc 231 = 10 + 8 := by decide +kernel
theorem rk231 : ip_rk 231 = 0 := by decide +kernel
theorem ml231 : ip_ml 231 = 4 := by decide +kernel
theorem c231 {d : Nat} {n : Nat} {S : ip_S} {R : ip_R} {L : ip_S} {Q : Option Value → Nat → ip_S → ip_R → ip_S → Prop} {a0 : Nat} {a1 : Int32} {a2 : Int32} : ip_wc (d + 1) 231 [.ref a0, .int a1, .int a2] n S R L Q = ip_wp d 231 0 [some (.ref a0), some (.int a1), some (.int a2), none] [] n S R L Q := ip_wcE ml231 (Nat.le_of_ble_eq_true rfl) rfl
theorem na232 : ip_na 232 = 1 := by decide +kernel
theorem rc232 : ip_rc 232 = 0 := by decide +kernel
theorem rk232 : ip_rk 232 = 0 := by decide +kernel
theorem ml232 : ip_ml 232 = 1 := by decide +kernel
theorem c232 {d : Nat} {n : Nat} {S : ip_S} {R : ip_R} {L : ip_S} {Q : Option Value → Nat → ip_S → ip_R → ip_S → Prop} {a0 : Int32} : ip_wc (d + 1) 232 [.int a0] n S R L Q = ip_wp d 232 0 [some (.int a0)] [] n S R L Q := ip_wcE ml232 (Nat.le_of_ble_eq_true rfl) rfl
theorem na233 : ip_na 233 = 1 := by decide +kernel
theorem rc233 : ip_rc 233 = 0 := by decide +kernel
theorem rk233 : ip_rk 233 = 1 := by decide +kernel
theorem ml233 : ip_ml 233 = 4 := by decide +kernel
theorem c233 {d : Nat} {n : Nat} {S : ip_S} {R : ip_R} {L : ip_S} {Q : Option Value → Nat → ip_S → ip_R → ip_S → Prop} {a0 : Nat} : ip_wc (d + 1) 233 [.ref a0] n S R L Q = ip_wp d 233 0 [some (.ref a0), none, none, none] [] n S R L Q := ip_wcE ml233 (Nat.le_of_ble_eq_true rfl) rfl
theorem O0 {n : Nat} (h : 0 < n) : ip_isO n 0 0 = True := eq_true ⟨h, rfl⟩
theorem O1 {n : Nat} (h : 1 < n) : ip_isO n 1 1 = True := eq_true ⟨h, rfl⟩
theorem A2 {n : Nat} {z : Int} (h : 2 < n) : ip_isA n 2 0 z = (0 ≤ z ∧ z < 64) := propext ⟨fun q => q.2.2, fun q => ⟨h, rfl, q⟩⟩
theorem A3 {n : Nat} {z : Int} (h : 3 < n) : ip_isA n 3 0 z = (0 ≤ z ∧ z < 64) := propext ⟨fun q => q.2.2, fun q => ⟨h, rfl, q⟩⟩
theorem A4 {n : Nat} {z : Int} (h : 4 < n) : ip_isA n 4 0 z = (0 ≤ z ∧ z < 6) := propext ⟨fun q => q.2.2, fun q => ⟨h, rfl, q⟩⟩
theorem A5 {n : Nat} {z : Int} (h : 5 < n) : ip_isA n 5 0 z = (0 ≤ z ∧ z < 6) := propext ⟨fun q => q.2.2, fun q => ⟨h, rfl, q⟩⟩
theorem A6 {n : Nat} {z : Int} (h : 6 < n) : ip_isA n 6 0 z = (0 ≤ z ∧ z < 6) := propext ⟨fun q => q.2.2, fun q => ⟨h, rfl, q⟩⟩
theorem A7 {n : Nat} {z : Int} (h : 7 < n) : ip_isA n 7 0 z = (0 ≤ z ∧ z < 6) := propext ⟨fun q => q.2.2, fun q => ⟨h, rfl, q⟩⟩
theorem A8 {n : Nat} {z : Int} (h : 8 < n) : ip_isA n 8 0 z = (0 ≤ z ∧ z < 2) := propext ⟨fun q => q.2.2, fun q => ⟨h, rfl, q⟩⟩
theorem O9 {n : Nat} (h : 9 < n) : ip_isO n 9 1 = True := eq_true ⟨h, rfl⟩
theorem A10 {n : Nat} {z : Int} (h : 10 < n) : ip_isA n 10 0 z = (0 ≤ z ∧ z < 64) := propext ⟨fun q => q.2.2, fun q => ⟨h, rfl, q⟩⟩
theorem A11 {n : Nat} {z : Int} (h : 11 < n) : ip_isA n 11 0 z = (0 ≤ z ∧ z < 64) := propext ⟨fun q => q.2.2, fun q => ⟨h, rfl, q⟩⟩
theorem A12 {n : Nat} {z : Int} (h : 12 < n) : ip_isA n 12 0 z = (0 ≤ z ∧ z < 6) := propext ⟨fun q => q.2.2, fun q => ⟨h, rfl, q⟩⟩
theorem A13 {n : Nat} {z : Int} (h : 13 < n) : ip_isA n 13 0 z = (0 ≤ z ∧ z < 6) := propext ⟨fun q => q.2.2, fun q => ⟨h, rfl, q⟩⟩
theorem A14 {n : Nat} {z : Int} (h : 14 < n) : ip_isA n 14 0 z = (0 ≤ z ∧ z < 6) := propext ⟨fun q => q.2.2, fun q => ⟨h, rfl, q⟩⟩
theorem A15 {n : Nat} {z : Int} (h : 15 < n) : ip_isA n 15 0 z = (0 ≤ z ∧ z < 6) := propext ⟨fun q => q.2.2, fun q => ⟨h, rfl, q⟩⟩
theorem A16 {n : Nat} {z : Int} (h : 16 < n) : ip_isA n 16 0 z = (0 ≤ z ∧ z < 2) := propext ⟨fun q => q.2.2, fun q => ⟨h, rfl, q⟩⟩
theorem O17 {n : Nat} (h : 17 < n) : ip_isO n 17 2 = True := eq_true ⟨h, rfl⟩
theorem A18 {n : Nat} {z : Int} (h : 18 < n) : ip_isA n 18 3 z = (0 ≤ z ∧ z < 6) := propext ⟨fun q => q.2.2, fun q => ⟨h, rfl, q⟩⟩
theorem O19 {n : Nat} (h : 19 < n) : ip_isO n 19 3 = True := eq_true ⟨h, rfl⟩
theorem A20 {n : Nat} {z : Int} (h : 20 < n) : ip_isA n 20 0 z = (0 ≤ z ∧ z < 160) := propext ⟨fun q => q.2.2, fun q => ⟨h, rfl, q⟩⟩
theorem A21 {n : Nat} {z : Int} (h : 21 < n) : ip_isA n 21 0 z = (0 ≤ z ∧ z < 161) := propext ⟨fun q => q.2.2, fun q => ⟨h, rfl, q⟩⟩
theorem A22 {n : Nat} {z : Int} (h : 22 < n) : ip_isA n 22 0 z = (0 ≤ z ∧ z < 161) := propext ⟨fun q => q.2.2, fun q => ⟨h, rfl, q⟩⟩
theorem A23 {n : Nat} {z : Int} (h : 23 < n) : ip_isA n 23 0 z = (0 ≤ z ∧ z < 161) := propext ⟨fun q => q.2.2, fun q => ⟨h, rfl, q⟩⟩
theorem O24 {n : Nat} (h : 24 < n) : ip_isO n 24 4 = True := eq_true ⟨h, rfl⟩
theorem A25 {n : Nat} {z : Int} (h : 25 < n) : ip_isA n 25 0 z = (0 ≤ z ∧ z < 160) := propext ⟨fun q => q.2.2, fun q => ⟨h, rfl, q⟩⟩
theorem O26 {n : Nat} (h : 26 < n) : ip_isO n 26 5 = True := eq_true ⟨h, rfl⟩
theorem A27 {n : Nat} {z : Int} (h : 27 < n) : ip_isA n 27 0 z = (0 ≤ z ∧ z < 160) := propext ⟨fun q => q.2.2, fun q => ⟨h, rfl, q⟩⟩
theorem A28 {n : Nat} {z : Int} (h : 28 < n) : ip_isA n 28 0 z = (0 ≤ z ∧ z < 3) := propext ⟨fun q => q.2.2, fun q => ⟨h, rfl, q⟩⟩
theorem O29 {n : Nat} (h : 29 < n) : ip_isO n 29 5 = True := eq_true ⟨h, rfl⟩
theorem A30 {n : Nat} {z : Int} (h : 30 < n) : ip_isA n 30 0 z = (0 ≤ z ∧ z < 160) := propext ⟨fun q => q.2.2, fun q => ⟨h, rfl, q⟩⟩
theorem A31 {n : Nat} {z : Int} (h : 31 < n) : ip_isA n 31 0 z = (0 ≤ z ∧ z < 3) := propext ⟨fun q => q.2.2, fun q => ⟨h, rfl, q⟩⟩
theorem O32 {n : Nat} (h : 32 < n) : ip_isO n 32 5 = True := eq_true ⟨h, rfl⟩
theorem A33 {n : Nat} {z : Int} (h : 33 < n) : ip_isA n 33 0 z = (0 ≤ z ∧ z < 160) := propext ⟨fun q => q.2.2, fun q => ⟨h, rfl, q⟩⟩
theorem A34 {n : Nat} {z : Int} (h : 34 < n) : ip_isA n 34 0 z = (0 ≤ z ∧ z < 3) := propext ⟨fun q => q.2.2, fun q => ⟨h, rfl, q⟩⟩
theorem O35 {n : Nat} (h : 35 < n) : ip_isO n 35 5 = True := eq_true ⟨h, rfl⟩
theorem A36 {n : Nat} {z : Int} (h : 36 < n) : ip_isA n 36 0 z = (0 ≤ z ∧ z < 160) := propext ⟨fun q => q.2.2, fun q => ⟨h, rfl, q⟩⟩
theorem A37 {n : Nat} {z : Int} (h : 37 < n) : ip_isA n 37 0 z = (0 ≤ z ∧ z < 3) := propext ⟨fun q => q.2.2, fun q => ⟨h, rfl, q⟩⟩
theorem O38 {n : Nat} (h : 38 < n) : ip_isO n 38 5 = True := eq_true ⟨h, rfl⟩
theorem A39 {n : Nat} {z : Int} (h : 39 < n) : ip_isA n 39 0 z = (0 ≤ z ∧ z < 160) := propext ⟨fun q => q.2.2, fun q => ⟨h, rfl, q⟩⟩
theorem A40 {n : Nat} {z : Int} (h : 40 < n) : ip_isA n 40 0 z = (0 ≤ z ∧ z < 3) := propext ⟨fun q => q.2.2, fun q => ⟨h, rfl, q⟩⟩
theorem O41 {n : Nat} (h : 41 < n) : ip_isO n 41 5 = True := eq_true ⟨h, rfl⟩
theorem A42 {n : Nat} {z : Int} (h : 42 < n) : ip_isA n 42 0 z = (0 ≤ z ∧ z < 160) := propext ⟨fun q => q.2.2, fun q => ⟨h, rfl, q⟩⟩
theorem A43 {n : Nat} {z : Int} (h : 43 < n) : ip_isA n 43 0 z = (0 ≤ z ∧ z < 3) := propext ⟨fun q => q.2.2, fun q => ⟨h, rfl, q⟩⟩
theorem O44 {n : Nat} (h : 44 < n) : ip_isO n 44 6 = True := eq_true ⟨h, rfl⟩
theorem A45 {n : Nat} {z : Int} (h : 45 < n) : ip_isA n 45 0 z = (0 ≤ z ∧ z < 6) := propext ⟨fun q => q.2.2, fun q => ⟨h, rfl, q⟩⟩
theorem A46 {n : Nat} {z : Int} (h : 46 < n) : ip_isA n 46 0 z = (0 ≤ z ∧ z < 3) := propext ⟨fun q => q.2.2, fun q => ⟨h, rfl, q⟩⟩
theorem A47 {n : Nat} {z : Int} (h : 47 < n) : ip_isA n 47 0 z = (0 ≤ z ∧ z < 3) := propext ⟨fun q => q.2.2, fun q => ⟨h, rfl, q⟩⟩
theorem A48 {n : Nat} {z : Int} (h : 48 < n) : ip_isA n 48 0 z = (0 ≤ z ∧ z < 41) := propext ⟨fun q => q.2.2, fun q => ⟨h, rfl, q⟩⟩
theorem A49 {n : Nat} {z : Int} (h : 49 < n) : ip_isA n 49 2 z = (0 ≤ z ∧ z < 4) := propext ⟨fun q => q.2.2, fun q => ⟨h, rfl, q⟩⟩
theorem A50 {n : Nat} {z : Int} (h : 50 < n) : ip_isA n 50 0 z = (0 ≤ z ∧ z < 6) := propext ⟨fun q => q.2.2, fun q => ⟨h, rfl, q⟩⟩
theorem A51 {n : Nat} {z : Int} (h : 51 < n) : ip_isA n 51 0 z = (0 ≤ z ∧ z < 36) := propext ⟨fun q => q.2.2, fun q => ⟨h, rfl, q⟩⟩
theorem A52 {n : Nat} {z : Int} (h : 52 < n) : ip_isA n 52 0 z = (0 ≤ z ∧ z < 64) := propext ⟨fun q => q.2.2, fun q => ⟨h, rfl, q⟩⟩
theorem A53 {n : Nat} {z : Int} (h : 53 < n) : ip_isA n 53 0 z = (0 ≤ z ∧ z < 64) := propext ⟨fun q => q.2.2, fun q => ⟨h, rfl, q⟩⟩
theorem O54 {n : Nat} (h : 54 < n) : ip_isO n 54 7 = True := eq_true ⟨h, rfl⟩
theorem A55 {n : Nat} {z : Int} (h : 55 < n) : ip_isA n 55 0 z = (0 ≤ z ∧ z < 40) := propext ⟨fun q => q.2.2, fun q => ⟨h, rfl, q⟩⟩
theorem O56 {n : Nat} (h : 56 < n) : ip_isO n 56 7 = True := eq_true ⟨h, rfl⟩
theorem A57 {n : Nat} {z : Int} (h : 57 < n) : ip_isA n 57 0 z = (0 ≤ z ∧ z < 40) := propext ⟨fun q => q.2.2, fun q => ⟨h, rfl, q⟩⟩
theorem O58 {n : Nat} (h : 58 < n) : ip_isO n 58 7 = True := eq_true ⟨h, rfl⟩
theorem A59 {n : Nat} {z : Int} (h : 59 < n) : ip_isA n 59 0 z = (0 ≤ z ∧ z < 40) := propext ⟨fun q => q.2.2, fun q => ⟨h, rfl, q⟩⟩
theorem O60 {n : Nat} (h : 60 < n) : ip_isO n 60 7 = True := eq_true ⟨h, rfl⟩
theorem A61 {n : Nat} {z : Int} (h : 61 < n) : ip_isA n 61 0 z = (0 ≤ z ∧ z < 40) := propext ⟨fun q => q.2.2, fun q => ⟨h, rfl, q⟩⟩
theorem O62 {n : Nat} (h : 62 < n) : ip_isO n 62 8 = True := eq_true ⟨h, rfl⟩
theorem A63 {n : Nat} {z : Int} (h : 63 < n) : ip_isA n 63 0 z = (0 ≤ z ∧ z < 960) := propext ⟨fun q => q.2.2, fun q => ⟨h, rfl, q⟩⟩
theorem A64 {n : Nat} {z : Int} (h : 64 < n) : ip_isA n 64 0 z = (0 ≤ z ∧ z < 6) := propext ⟨fun q => q.2.2, fun q => ⟨h, rfl, q⟩⟩
theorem A65 {n : Nat} {z : Int} (h : 65 < n) : ip_isA n 65 0 z = (0 ≤ z ∧ z < 160) := propext ⟨fun q => q.2.2, fun q => ⟨h, rfl, q⟩⟩
theorem A66 {n : Nat} {z : Int} (h : 66 < n) : ip_isA n 66 0 z = (0 ≤ z ∧ z < 64) := propext ⟨fun q => q.2.2, fun q => ⟨h, rfl, q⟩⟩
theorem A67 {n : Nat} {z : Int} (h : 67 < n) : ip_isA n 67 0 z = (0 ≤ z ∧ z < 6) := propext ⟨fun q => q.2.2, fun q => ⟨h, rfl, q⟩⟩
theorem A68 {n : Nat} {z : Int} (h : 68 < n) : ip_isA n 68 0 z = (0 ≤ z ∧ z < 18) := propext ⟨fun q => q.2.2, fun q => ⟨h, rfl, q⟩⟩
theorem A69 {n : Nat} {z : Int} (h : 69 < n) : ip_isA n 69 0 z = (0 ≤ z ∧ z < 64) := propext ⟨fun q => q.2.2, fun q => ⟨h, rfl, q⟩⟩
theorem A70 {n : Nat} {z : Int} (h : 70 < n) : ip_isA n 70 0 z = (0 ≤ z ∧ z < 41) := propext ⟨fun q => q.2.2, fun q => ⟨h, rfl, q⟩⟩
theorem A71 {n : Nat} {z : Int} (h : 71 < n) : ip_isA n 71 0 z = (0 ≤ z ∧ z < 36) := propext ⟨fun q => q.2.2, fun q => ⟨h, rfl, q⟩⟩
theorem A72 {n : Nat} {z : Int} (h : 72 < n) : ip_isA n 72 0 z = (0 ≤ z ∧ z < 6) := propext ⟨fun q => q.2.2, fun q => ⟨h, rfl, q⟩⟩
theorem A73 {n : Nat} {z : Int} (h : 73 < n) : ip_isA n 73 0 z = (0 ≤ z ∧ z < 64) := propext ⟨fun q => q.2.2, fun q => ⟨h, rfl, q⟩⟩
theorem A74 {n : Nat} {z : Int} (h : 74 < n) : ip_isA n 74 0 z = (0 ≤ z ∧ z < 18) := propext ⟨fun q => q.2.2, fun q => ⟨h, rfl, q⟩⟩
theorem A75 {n : Nat} {z : Int} (h : 75 < n) : ip_isA n 75 1 z = (0 ≤ z ∧ z < 4) := propext ⟨fun q => q.2.2, fun q => ⟨h, rfl, q⟩⟩
theorem A76 {n : Nat} {z : Int} (h : 76 < n) : ip_isA n 76 0 z = (0 ≤ z ∧ z < 4) := propext ⟨fun q => q.2.2, fun q => ⟨h, rfl, q⟩⟩
theorem A77 {n : Nat} {z : Int} (h : 77 < n) : ip_isA n 77 0 z = (0 ≤ z ∧ z < 4) := propext ⟨fun q => q.2.2, fun q => ⟨h, rfl, q⟩⟩
theorem A78 {n : Nat} {z : Int} (h : 78 < n) : ip_isA n 78 0 z = (0 ≤ z ∧ z < 160) := propext ⟨fun q => q.2.2, fun q => ⟨h, rfl, q⟩⟩
