theorem kb_m9 : (Int8.ofInt (-9)).toInt32 = -9 := by decide
theorem kb_m3 : (Int8.ofInt (-3)).toInt32 = -3 := by decide
theorem kb_m2 : (Int8.ofInt (-2)).toInt32 = -2 := by decide
theorem kb_6 : (Int8.ofInt (6)).toInt32 = nI 6 := by decide
theorem kb_8 : (Int8.ofInt (8)).toInt32 = nI 8 := by decide
theorem kb_10 : (Int8.ofInt (10)).toInt32 = nI 10 := by decide
theorem kb_11 : (Int8.ofInt (11)).toInt32 = nI 11 := by decide
theorem kb_14 : (Int8.ofInt (14)).toInt32 = nI 14 := by decide
theorem kb_16 : (Int8.ofInt (16)).toInt32 = nI 16 := by decide
theorem kb_18 : (Int8.ofInt (18)).toInt32 = nI 18 := by decide
theorem kb_20 : (Int8.ofInt (20)).toInt32 = nI 20 := by decide
theorem kb_24 : (Int8.ofInt (24)).toInt32 = nI 24 := by decide
theorem kb_31 : (Int8.ofInt (31)).toInt32 = nI 31 := by decide
theorem kb_32 : (Int8.ofInt (32)).toInt32 = nI 32 := by decide
theorem kb_38 : (Int8.ofInt (38)).toInt32 = nI 38 := by decide
theorem kb_42 : (Int8.ofInt (42)).toInt32 = nI 42 := by decide
theorem kb_63 : (Int8.ofInt (63)).toInt32 = nI 63 := by decide
theorem kb_99 : (Int8.ofInt (99)).toInt32 = nI 99 := by decide
theorem k_m1 : Int32.ofInt (-1) = -1 := by decide
theorem k_0 : Int32.ofInt (0) = nI 0 := by decide
theorem k_1 : Int32.ofInt (1) = nI 1 := by decide
theorem k_2 : Int32.ofInt (2) = nI 2 := by decide
theorem k_3 : Int32.ofInt (3) = nI 3 := by decide
theorem k_4 : Int32.ofInt (4) = nI 4 := by decide
theorem k_5 : Int32.ofInt (5) = nI 5 := by decide
theorem ks_200 : (Int16.ofInt (200)).toInt32 = nI 200 := by decide
theorem ks_264 : (Int16.ofInt (264)).toInt32 = nI 264 := by decide
theorem ks_440 : (Int16.ofInt (440)).toInt32 = nI 440 := by decide
theorem ks_512 : (Int16.ofInt (512)).toInt32 = nI 512 := by decide
theorem ks_1000 : (Int16.ofInt (1000)).toInt32 = nI 1000 := by decide
theorem ks_1024 : (Int16.ofInt (1024)).toInt32 = nI 1024 := by decide
theorem ks_2048 : (Int16.ofInt (2048)).toInt32 = nI 2048 := by decide
theorem ks_2560 : (Int16.ofInt (2560)).toInt32 = nI 2560 := by decide
