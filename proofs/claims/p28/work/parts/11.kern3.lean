theorem ka233_0 : ip_ckn 233 10 code 60 (ip_c233.drop 0) = true := by decide +kernel
theorem ka233_60 : ip_ckn 233 10 code 60 (ip_c233.drop 60) = true := by decide +kernel
theorem ka233_120 : ip_ckn 233 10 code 60 (ip_c233.drop 120) = true := by decide +kernel
theorem ka233_180 : ip_ckn 233 10 code 60 (ip_c233.drop 180) = true := by decide +kernel
theorem ka233_240 : ip_ckn 233 10 code 60 (ip_c233.drop 240) = true := by decide +kernel
theorem ka233_300 : ip_ckn 233 10 code 60 (ip_c233.drop 300) = true := by decide +kernel
theorem ka233_360 : ip_ckn 233 10 code 60 (ip_c233.drop 360) = true := by decide +kernel
theorem ka233_420 : ip_ckn 233 10 code 60 (ip_c233.drop 420) = true := by decide +kernel
