theorem cpnat : Cond.native arraycopyName ∈ gT := tw 392 (by decide +kernel) rfl
theorem cpsta : Cond.static arraycopyName ∈ gT := tw 391 (by decide +kernel) rfl
theorem cpini : Cond.initialized "java/lang/System" ∈ gT := tw 71 (by decide +kernel) rfl
theorem cpwords : nativeFrameWords "java/lang/System" "arraycopy" 5 ≤ 40 := by decide +kernel
theorem ccX9_100 : Cond.constant RX9 100 (-1000001) ∈ gT := tw 356 (by decide +kernel) rfl
theorem ccX9_288 : Cond.constant RX9 288 (-1000010) ∈ gT := tw 361 (by decide +kernel) rfl
theorem ccX9_140 : Cond.constant RX9 140 (-1000003) ∈ gT := tw 401 (by decide +kernel) rfl
theorem ccJ6_265 : Cond.constant RJ6 265 (1431655765) ∈ gT := tw 422 (by decide +kernel) rfl
theorem ccJ6_266 : Cond.constant RJ6 266 (858993459) ∈ gT := tw 423 (by decide +kernel) rfl
theorem ccJ6_267 : Cond.constant RJ6 267 (252645135) ∈ gT := tw 424 (by decide +kernel) rfl
theorem ccX6_41 : Cond.constant RX6 41 (-1000000) ∈ gT := tw 425 (by decide +kernel) rfl
theorem ccX9_153 : Cond.constant RX9 153 (-1000000) ∈ gT := tw 430 (by decide +kernel) rfl
theorem ccX8_70 : Cond.constant RX8 70 (-1000000) ∈ gT := tw 499 (by decide +kernel) rfl
theorem ccX9_191 : Cond.constant RX9 191 (-1000100) ∈ gT := tw 573 (by decide +kernel) rfl
theorem ccX3_23 : Cond.constant RX3 23 (-1000000) ∈ gT := tw 620 (by decide +kernel) rfl
theorem ccX3_19 : Cond.constantLong RX3 19 (6364136223846793005) ∈ gT := tw 625 (by decide +kernel) rfl
theorem ccX3_21 : Cond.constantLong RX3 21 (1442695040888963407) ∈ gT := tw 626 (by decide +kernel) rfl
theorem ccX4_46 : Cond.constant RX4 46 (-1000000) ∈ gT := tw 628 (by decide +kernel) rfl
theorem ccX1_71 : Cond.constant RX1 71 (-1000000) ∈ gT := tw 698 (by decide +kernel) rfl
theorem ccX9_241 : Cond.constant RX9 241 (-1000002) ∈ gT := tw 724 (by decide +kernel) rfl
theorem ccX10_85 : Cond.constantLong RX10 85 (7) ∈ gT := tw 997 (by decide +kernel) rfl
theorem ccX10_95 : Cond.constantLong RX10 95 (2) ∈ gT := tw 1001 (by decide +kernel) rfl
theorem ccX10_97 : Cond.constant RX10 97 (-1000001) ∈ gT := tw 1002 (by decide +kernel) rfl
theorem ccX10_84 : Cond.constant RX10 84 (-1000010) ∈ gT := tw 1007 (by decide +kernel) rfl
theorem ccX10_107 : Cond.constantLong RX10 107 (20) ∈ gT := tw 1024 (by decide +kernel) rfl
theorem ccX10_109 : Cond.constant RX10 109 (-1000003) ∈ gT := tw 1025 (by decide +kernel) rfl
theorem ccX10_110 : Cond.constantLong RX10 110 (9999) ∈ gT := tw 1026 (by decide +kernel) rfl
theorem ccX10_112 : Cond.constantLong RX10 112 (9) ∈ gT := tw 1027 (by decide +kernel) rfl
theorem ccX10_114 : Cond.constantLong RX10 114 (4) ∈ gT := tw 1036 (by decide +kernel) rfl
theorem ccX10_106 : Cond.constant RX10 106 (-1000000) ∈ gT := tw 1037 (by decide +kernel) rfl
theorem ccX10_123 : Cond.constantLong RX10 123 (10) ∈ gT := tw 1050 (by decide +kernel) rfl
theorem ccX10_130 : Cond.constantLong RX10 130 (8) ∈ gT := tw 1059 (by decide +kernel) rfl
theorem ccX10_135 : Cond.constantLong RX10 135 (255) ∈ gT := tw 1060 (by decide +kernel) rfl
theorem ccX10_182 : Cond.constantLong RX10 182 (6775152) ∈ gT := tw 1087 (by decide +kernel) rfl
theorem ccX10_184 : Cond.constantLong RX10 184 (431198598248) ∈ gT := tw 1088 (by decide +kernel) rfl
theorem ccX10_186 : Cond.constantLong RX10 186 (7234935) ∈ gT := tw 1089 (by decide +kernel) rfl
theorem ccX10_188 : Cond.constantLong RX10 188 (444300878196) ∈ gT := tw 1090 (by decide +kernel) rfl
theorem ccX10_190 : Cond.constantLong RX10 190 (2002873451) ∈ gT := tw 1091 (by decide +kernel) rfl
theorem ccX10_201 : Cond.constant RX10 201 (-1000100) ∈ gT := tw 1104 (by decide +kernel) rfl
theorem ccX10_128 : Cond.constantLong RX10 128 (3) ∈ gT := tw 1116 (by decide +kernel) rfl
theorem ccX10_242 : Cond.constantLong RX10 242 (40) ∈ gT := tw 1131 (by decide +kernel) rfl
theorem ccX10_215 : Cond.constantLong RX10 215 (6364136223846793005) ∈ gT := tw 1148 (by decide +kernel) rfl
theorem ccX10_217 : Cond.constantLong RX10 217 (1442695040888963407) ∈ gT := tw 1149 (by decide +kernel) rfl
theorem ccX10_255 : Cond.constantLong RX10 255 (6) ∈ gT := tw 1166 (by decide +kernel) rfl
theorem ccX10_257 : Cond.constantLong RX10 257 (99) ∈ gT := tw 1167 (by decide +kernel) rfl
theorem ccX10_259 : Cond.constantLong RX10 259 (5) ∈ gT := tw 1172 (by decide +kernel) rfl
theorem ccX10_278 : Cond.constant RX10 278 (-1000002) ∈ gT := tw 1200 (by decide +kernel) rfl
theorem ccL_44 : Cond.constantLong RL 44 (4294967295) ∈ gT := tw 1279 (by decide +kernel) rfl
theorem icm1 : Int32.ofInt (-1) = -1 := by decide
theorem ic0 : Int32.ofInt (0) = 0 := by decide
theorem ic1 : Int32.ofInt (1) = 1 := by decide
theorem ic2 : Int32.ofInt (2) = 2 := by decide
theorem ic3 : Int32.ofInt (3) = 3 := by decide
theorem ic4 : Int32.ofInt (4) = 4 := by decide
theorem ic5 : Int32.ofInt (5) = 5 := by decide
theorem bp6 : (Int8.ofInt (6)).toInt32 = 6 := by decide
theorem bp7 : (Int8.ofInt (7)).toInt32 = 7 := by decide
theorem bp8 : (Int8.ofInt (8)).toInt32 = 8 := by decide
theorem bp9 : (Int8.ofInt (9)).toInt32 = 9 := by decide
theorem bp10 : (Int8.ofInt (10)).toInt32 = 10 := by decide
theorem bp11 : (Int8.ofInt (11)).toInt32 = 11 := by decide
theorem bp12 : (Int8.ofInt (12)).toInt32 = 12 := by decide
theorem bp13 : (Int8.ofInt (13)).toInt32 = 13 := by decide
theorem bp14 : (Int8.ofInt (14)).toInt32 = 14 := by decide
theorem bp16 : (Int8.ofInt (16)).toInt32 = 16 := by decide
theorem bp20 : (Int8.ofInt (20)).toInt32 = 20 := by decide
theorem bp21 : (Int8.ofInt (21)).toInt32 = 21 := by decide
theorem bp22 : (Int8.ofInt (22)).toInt32 = 22 := by decide
theorem bp23 : (Int8.ofInt (23)).toInt32 = 23 := by decide
theorem bp30 : (Int8.ofInt (30)).toInt32 = 30 := by decide
theorem bp31 : (Int8.ofInt (31)).toInt32 = 31 := by decide
theorem bp32 : (Int8.ofInt (32)).toInt32 = 32 := by decide
theorem bp33 : (Int8.ofInt (33)).toInt32 = 33 := by decide
theorem bp39 : (Int8.ofInt (39)).toInt32 = 39 := by decide
theorem bp40 : (Int8.ofInt (40)).toInt32 = 40 := by decide
theorem bp48 : (Int8.ofInt (48)).toInt32 = 48 := by decide
theorem bp49 : (Int8.ofInt (49)).toInt32 = 49 := by decide
theorem bp57 : (Int8.ofInt (57)).toInt32 = 57 := by decide
theorem bp59 : (Int8.ofInt (59)).toInt32 = 59 := by decide
theorem bp60 : (Int8.ofInt (60)).toInt32 = 60 := by decide
theorem bp63 : (Int8.ofInt (63)).toInt32 = 63 := by decide
theorem bp64 : (Int8.ofInt (64)).toInt32 = 64 := by decide
theorem bp97 : (Int8.ofInt (97)).toInt32 = 97 := by decide
theorem bp99 : (Int8.ofInt (99)).toInt32 = 99 := by decide
theorem bp100 : (Int8.ofInt (100)).toInt32 = 100 := by decide
theorem bp122 : (Int8.ofInt (122)).toInt32 = 122 := by decide
theorem sp200 : (Int16.ofInt (200)).toInt32 = 200 := by decide
theorem sp255 : (Int16.ofInt (255)).toInt32 = 255 := by decide
theorem sp400 : (Int16.ofInt (400)).toInt32 = 400 := by decide
theorem sp480 : (Int16.ofInt (480)).toInt32 = 480 := by decide
theorem sp9999 : (Int16.ofInt (9999)).toInt32 = 9999 := by decide
theorem ic6 : Int32.ofInt (6) = 6 := by decide
