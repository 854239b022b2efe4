/-! ===== constants ===== -/
theorem kb_m4 : (Int8.ofInt (-4)).toInt32 = (-4) := by decide
theorem kb_m3 : (Int8.ofInt (-3)).toInt32 = (-3) := by decide
theorem kb_m2 : (Int8.ofInt (-2)).toInt32 = (-2) := by decide
theorem kb_6 : (Int8.ofInt (6)).toInt32 = (6) := by decide
theorem kb_7 : (Int8.ofInt (7)).toInt32 = (7) := by decide
theorem kb_8 : (Int8.ofInt (8)).toInt32 = (8) := by decide
theorem kb_9 : (Int8.ofInt (9)).toInt32 = (9) := by decide
theorem kb_10 : (Int8.ofInt (10)).toInt32 = (10) := by decide
theorem kb_11 : (Int8.ofInt (11)).toInt32 = (11) := by decide
theorem kb_12 : (Int8.ofInt (12)).toInt32 = (12) := by decide
theorem kb_13 : (Int8.ofInt (13)).toInt32 = (13) := by decide
theorem kb_14 : (Int8.ofInt (14)).toInt32 = (14) := by decide
theorem kb_15 : (Int8.ofInt (15)).toInt32 = (15) := by decide
theorem kb_16 : (Int8.ofInt (16)).toInt32 = (16) := by decide
theorem kb_20 : (Int8.ofInt (20)).toInt32 = (20) := by decide
theorem kb_24 : (Int8.ofInt (24)).toInt32 = (24) := by decide
theorem kb_26 : (Int8.ofInt (26)).toInt32 = (26) := by decide
theorem kb_30 : (Int8.ofInt (30)).toInt32 = (30) := by decide
theorem kb_32 : (Int8.ofInt (32)).toInt32 = (32) := by decide
theorem kb_35 : (Int8.ofInt (35)).toInt32 = (35) := by decide
theorem kb_36 : (Int8.ofInt (36)).toInt32 = (36) := by decide
theorem kb_37 : (Int8.ofInt (37)).toInt32 = (37) := by decide
theorem kb_38 : (Int8.ofInt (38)).toInt32 = (38) := by decide
theorem kb_44 : (Int8.ofInt (44)).toInt32 = (44) := by decide
theorem kb_48 : (Int8.ofInt (48)).toInt32 = (48) := by decide
theorem kb_50 : (Int8.ofInt (50)).toInt32 = (50) := by decide
theorem kb_57 : (Int8.ofInt (57)).toInt32 = (57) := by decide
theorem kb_59 : (Int8.ofInt (59)).toInt32 = (59) := by decide
theorem kb_60 : (Int8.ofInt (60)).toInt32 = (60) := by decide
theorem kb_63 : (Int8.ofInt (63)).toInt32 = (63) := by decide
theorem kb_64 : (Int8.ofInt (64)).toInt32 = (64) := by decide
theorem kb_72 : (Int8.ofInt (72)).toInt32 = (72) := by decide
theorem kb_97 : (Int8.ofInt (97)).toInt32 = (97) := by decide
theorem kb_100 : (Int8.ofInt (100)).toInt32 = (100) := by decide
theorem kb_122 : (Int8.ofInt (122)).toInt32 = (122) := by decide
theorem ki_m8 : Int32.ofInt (-8) = (-8) := by decide
theorem ki_m1 : Int32.ofInt (-1) = (-1) := by decide
theorem ki_0 : Int32.ofInt (0) = (0) := by decide
theorem ki_1 : Int32.ofInt (1) = (1) := by decide
theorem ki_2 : Int32.ofInt (2) = (2) := by decide
theorem ki_3 : Int32.ofInt (3) = (3) := by decide
theorem ki_4 : Int32.ofInt (4) = (4) := by decide
theorem ki_5 : Int32.ofInt (5) = (5) := by decide
theorem ki_7 : Int32.ofInt (7) = (7) := by decide
theorem kl_0 : Int64.ofNat (0 : Fin 2).val = (0) := by decide
theorem kl_1 : Int64.ofNat (1 : Fin 2).val = (1) := by decide
theorem ks_180 : (Int16.ofInt (180)).toInt32 = (180) := by decide
theorem ks_200 : (Int16.ofInt (200)).toInt32 = (200) := by decide
theorem ks_224 : (Int16.ofInt (224)).toInt32 = (224) := by decide
theorem ks_255 : (Int16.ofInt (255)).toInt32 = (255) := by decide
theorem ks_259 : (Int16.ofInt (259)).toInt32 = (259) := by decide
theorem ks_288 : (Int16.ofInt (288)).toInt32 = (288) := by decide
theorem ks_294 : (Int16.ofInt (294)).toInt32 = (294) := by decide
theorem ks_296 : (Int16.ofInt (296)).toInt32 = (296) := by decide
theorem ks_366 : (Int16.ofInt (366)).toInt32 = (366) := by decide
theorem ks_500 : (Int16.ofInt (500)).toInt32 = (500) := by decide
theorem ks_606 : (Int16.ofInt (606)).toInt32 = (606) := by decide
theorem ks_780 : (Int16.ofInt (780)).toInt32 = (780) := by decide
theorem ks_800 : (Int16.ofInt (800)).toInt32 = (800) := by decide
theorem ks_4242 : (Int16.ofInt (4242)).toInt32 = (4242) := by decide
theorem ks_4848 : (Int16.ofInt (4848)).toInt32 = (4848) := by decide
theorem ks_10000 : (Int16.ofInt (10000)).toInt32 = (10000) := by decide
theorem kn_0 : (0 : Int32) = Int32.ofNat 0 := by decide
theorem kn_1 : (1 : Int32) = Int32.ofNat 1 := by decide
theorem kn_2 : (2 : Int32) = Int32.ofNat 2 := by decide
theorem kn_3 : (3 : Int32) = Int32.ofNat 3 := by decide
theorem kn_4 : (4 : Int32) = Int32.ofNat 4 := by decide
theorem kn_5 : (5 : Int32) = Int32.ofNat 5 := by decide
theorem kn_6 : (6 : Int32) = Int32.ofNat 6 := by decide
theorem kn_7 : (7 : Int32) = Int32.ofNat 7 := by decide
theorem kn_8 : (8 : Int32) = Int32.ofNat 8 := by decide
theorem kn_9 : (9 : Int32) = Int32.ofNat 9 := by decide
theorem kn_10 : (10 : Int32) = Int32.ofNat 10 := by decide
theorem kn_11 : (11 : Int32) = Int32.ofNat 11 := by decide
theorem kn_12 : (12 : Int32) = Int32.ofNat 12 := by decide
theorem kn_13 : (13 : Int32) = Int32.ofNat 13 := by decide
theorem kn_14 : (14 : Int32) = Int32.ofNat 14 := by decide
theorem kn_15 : (15 : Int32) = Int32.ofNat 15 := by decide
theorem kn_16 : (16 : Int32) = Int32.ofNat 16 := by decide
theorem kn_20 : (20 : Int32) = Int32.ofNat 20 := by decide
theorem kn_24 : (24 : Int32) = Int32.ofNat 24 := by decide
theorem kn_26 : (26 : Int32) = Int32.ofNat 26 := by decide
theorem kn_30 : (30 : Int32) = Int32.ofNat 30 := by decide
theorem kn_32 : (32 : Int32) = Int32.ofNat 32 := by decide
theorem kn_35 : (35 : Int32) = Int32.ofNat 35 := by decide
theorem kn_36 : (36 : Int32) = Int32.ofNat 36 := by decide
theorem kn_37 : (37 : Int32) = Int32.ofNat 37 := by decide
theorem kn_38 : (38 : Int32) = Int32.ofNat 38 := by decide
theorem kn_44 : (44 : Int32) = Int32.ofNat 44 := by decide
theorem kn_48 : (48 : Int32) = Int32.ofNat 48 := by decide
theorem kn_50 : (50 : Int32) = Int32.ofNat 50 := by decide
theorem kn_57 : (57 : Int32) = Int32.ofNat 57 := by decide
theorem kn_59 : (59 : Int32) = Int32.ofNat 59 := by decide
theorem kn_60 : (60 : Int32) = Int32.ofNat 60 := by decide
theorem kn_63 : (63 : Int32) = Int32.ofNat 63 := by decide
theorem kn_64 : (64 : Int32) = Int32.ofNat 64 := by decide
theorem kn_72 : (72 : Int32) = Int32.ofNat 72 := by decide
theorem kn_97 : (97 : Int32) = Int32.ofNat 97 := by decide
theorem kn_100 : (100 : Int32) = Int32.ofNat 100 := by decide
theorem kn_122 : (122 : Int32) = Int32.ofNat 122 := by decide
theorem kn_180 : (180 : Int32) = Int32.ofNat 180 := by decide
theorem kn_200 : (200 : Int32) = Int32.ofNat 200 := by decide
theorem kn_224 : (224 : Int32) = Int32.ofNat 224 := by decide
theorem kn_255 : (255 : Int32) = Int32.ofNat 255 := by decide
theorem kn_259 : (259 : Int32) = Int32.ofNat 259 := by decide
theorem kn_288 : (288 : Int32) = Int32.ofNat 288 := by decide
theorem kn_294 : (294 : Int32) = Int32.ofNat 294 := by decide
theorem kn_296 : (296 : Int32) = Int32.ofNat 296 := by decide
theorem kn_366 : (366 : Int32) = Int32.ofNat 366 := by decide
theorem kn_500 : (500 : Int32) = Int32.ofNat 500 := by decide
theorem kn_606 : (606 : Int32) = Int32.ofNat 606 := by decide
theorem kn_780 : (780 : Int32) = Int32.ofNat 780 := by decide
theorem kn_800 : (800 : Int32) = Int32.ofNat 800 := by decide
theorem kn_4242 : (4242 : Int32) = Int32.ofNat 4242 := by decide
theorem kn_4848 : (4848 : Int32) = Int32.ofNat 4848 := by decide
theorem kn_10000 : (10000 : Int32) = Int32.ofNat 10000 := by decide
theorem kn_100000 : (100000 : Int32) = Int32.ofNat 100000 := by decide
theorem kn_1000000 : (1000000 : Int32) = Int32.ofNat 1000000 := by decide
theorem kn_10000000 : (10000000 : Int32) = Int32.ofNat 10000000 := by decide
theorem kn_1000000000 : (1000000000 : Int32) = Int32.ofNat 1000000000 := by decide
