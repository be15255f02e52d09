theorem ka233_480 : ip_ckn 233 10 code 60 (ip_c233.drop 480) = true := by decide +kernel
theorem ka233_540 : ip_ckn 233 10 code 60 (ip_c233.drop 540) = true := by decide +kernel
theorem ka233_600 : ip_ckn 233 10 code 60 (ip_c233.drop 600) = true := by decide +kernel
theorem ka233_660 : ip_ckn 233 10 code 60 (ip_c233.drop 660) = true := by decide +kernel
theorem ka233_720 : ip_ckn 233 10 code 60 (ip_c233.drop 720) = true := by decide +kernel
theorem ka233_780 : ip_ckn 233 10 code 60 (ip_c233.drop 780) = true := by decide +kernel
theorem ka233_840 : ip_ckn 233 10 code 60 (ip_c233.drop 840) = true := by decide +kernel
theorem ka233_900 : ip_ckn 233 10 code 25 (ip_c233.drop 900) = true := by decide +kernel
