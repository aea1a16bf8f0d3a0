section
set_option maxRecDepth 20000 in
theorem ggX8_digest_X8_count : GoodIn wsX8_digest wsX8_count := goodIn_r _ [9, 3, 10, 11, 12, 4, 13, 14, 15, 16, 8, 17, 18, 19, 20, 21, 22, 23, 24, 25, 26, 27, 28, 29, 30, 31, 32, 33, 34, 35, 36, 37, 38, 39, 40, 41, 42, 43, 44, 45, 46, 47, 48, 49, 50, 51, 52, 53, 54, 55, 56, 57, 58, 59, 60, 61, 62, 63, 64, 65, 66, 67, 68, 69, 70, 71, 72, 73, 74, 75, 76, 77, 78, 79, 80, 81, 82, 83, 84, 85, 86, 87, 234, 235, 236, 237, 238, 239, 240, 241, 242, 243, 244, 245, 246, 247, 248, 249, 250, 251] (by decide +kernel) (by decide +kernel)
set_option maxRecDepth 20000 in
theorem gX8_digest_X8_count : GoodIn wsX8_digest (wsV RX8 288 RX8 yX8_count wsX8_count) := goodIn_app (goodIn_of _ (by decide +kernel)) ggX8_digest_X8_count
set_option maxRecDepth 20000 in
theorem ggX8_digest_X8_readsShapes : GoodIn wsX8_digest wsX8_readsShapes := goodIn_r _ [21, 22, 3, 11, 23, 24, 25, 8, 26, 27, 28, 29, 30, 4, 31, 32, 33, 34, 35, 36, 37, 38, 39, 40, 41, 42, 234, 235, 236, 237, 238, 239, 240, 241, 242, 243, 244, 245, 246, 247, 248, 249, 250, 251] (by decide +kernel) (by decide +kernel)
set_option maxRecDepth 20000 in
theorem gX8_digest_X8_readsShapes : GoodIn wsX8_digest (wsV RX8 118 RX8 yX8_readsShapes wsX8_readsShapes) := goodIn_app (goodIn_of _ (by decide +kernel)) ggX8_digest_X8_readsShapes
set_option maxRecDepth 20000 in
theorem ggX8_digest_X8_readsHouse : GoodIn wsX8_digest wsX8_readsHouse := goodIn_r _ [46, 22, 11, 47, 48, 49, 8, 50, 10, 51, 52, 53, 54, 31, 32, 33, 34, 35, 234, 235, 236, 237, 238, 239, 240, 241, 242, 243, 244, 245, 246, 247, 248, 249, 250, 251] (by decide +kernel) (by decide +kernel)
set_option maxRecDepth 20000 in
theorem gX8_digest_X8_readsHouse : GoodIn wsX8_digest (wsV RX8 121 RX8 yX8_readsHouse wsX8_readsHouse) := goodIn_app (goodIn_of _ (by decide +kernel)) ggX8_digest_X8_readsHouse
set_option maxRecDepth 20000 in
theorem ggX8_digest_X8_turned : GoodIn wsX8_digest wsX8_turned := goodIn_r _ [79, 80, 81, 8, 82, 65, 66, 67] (by decide +kernel) (by decide +kernel)
set_option maxRecDepth 20000 in
theorem gX8_digest_X8_turned : GoodIn wsX8_digest (va_wsS RX8 132 yX8_turned wsX8_turned) := goodIn_app (goodIn_of _ (by decide +kernel)) ggX8_digest_X8_turned
set_option maxRecDepth 20000 in
theorem ggX8_digest_X8_sightOf : GoodIn wsX8_digest wsX8_sightOf := goodIn_r _ [90, 65, 66, 8, 67, 68, 69, 70] (by decide +kernel) (by decide +kernel)
set_option maxRecDepth 20000 in
theorem gX8_digest_X8_sightOf : GoodIn wsX8_digest (va_wsS RX8 156 yX8_sightOf wsX8_sightOf) := goodIn_app (goodIn_of _ (by decide +kernel)) ggX8_digest_X8_sightOf
set_option maxRecDepth 20000 in
theorem ggX8_digest_X8_formOf : GoodIn wsX8_digest wsX8_formOf := goodIn_r _ [94, 4, 58, 59, 8, 60, 61, 62, 63, 64, 36, 37, 38, 65, 66, 67, 68, 69, 70, 95, 96, 97, 55, 56, 57, 234, 235, 236, 237, 238, 239, 240, 241, 242, 243, 244, 245, 246, 247, 248, 249, 250, 251] (by decide +kernel) (by decide +kernel)
set_option maxRecDepth 20000 in
theorem gX8_digest_X8_formOf : GoodIn wsX8_digest (wsV RX8 172 RX8 yX8_formOf wsX8_formOf) := goodIn_app (goodIn_of _ (by decide +kernel)) ggX8_digest_X8_formOf
set_option maxRecDepth 20000 in
theorem ggX8_digest_X8_kinOf : GoodIn wsX8_digest wsX8_kinOf := goodIn_r _ [101, 4, 3, 71, 72, 8, 73, 65, 66, 67, 74, 75, 76, 77, 78, 79, 80, 81, 82, 83, 84, 85, 86, 87, 234, 235, 236, 237, 238, 239, 240, 241, 242, 243, 244, 245, 246, 247, 248, 249, 250, 251] (by decide +kernel) (by decide +kernel)
set_option maxRecDepth 20000 in
theorem gX8_digest_X8_kinOf : GoodIn wsX8_digest (wsV RX8 178 RX8 yX8_kinOf wsX8_kinOf) := goodIn_app (goodIn_of _ (by decide +kernel)) ggX8_digest_X8_kinOf
set_option maxRecDepth 20000 in
theorem ggX8_digest_X8_selfOf : GoodIn wsX8_digest wsX8_selfOf := goodIn_r _ [105, 4, 77, 78, 8, 79, 80, 81, 82, 65, 66, 67, 83, 84, 85, 86, 87, 234, 235, 236, 237, 238, 239, 240, 241, 242, 243, 244, 245, 246, 247, 248, 249, 250, 251] (by decide +kernel) (by decide +kernel)
set_option maxRecDepth 20000 in
theorem gX8_digest_X8_selfOf : GoodIn wsX8_digest (wsV RX8 181 RX8 yX8_selfOf wsX8_selfOf) := goodIn_app (goodIn_of _ (by decide +kernel)) ggX8_digest_X8_selfOf
set_option maxRecDepth 20000 in
theorem ggX8_digest_X8_canStand : GoodIn wsX8_digest wsX8_canStand := goodIn_r _ [109, 10, 65, 66, 8, 67, 68, 69, 70, 234, 235, 236, 237, 238, 239, 240, 241, 242, 243, 244, 245, 246, 247, 248, 249, 250, 251] (by decide +kernel) (by decide +kernel)
set_option maxRecDepth 20000 in
theorem gX8_digest_X8_canStand : GoodIn wsX8_digest (wsV RX8 192 RX8 yX8_canStand wsX8_canStand) := goodIn_app (goodIn_of _ (by decide +kernel)) ggX8_digest_X8_canStand
set_option maxRecDepth 20000 in
theorem ggX8_digest_X8_throughOf : GoodIn wsX8_digest wsX8_throughOf := goodIn_r _ [113, 4, 114, 77, 78, 8, 79, 80, 81, 82, 65, 66, 67, 106, 107, 108, 109, 10, 68, 69, 70, 115, 116, 117, 118, 119, 120, 121, 122, 123, 124, 125, 36, 37, 38, 234, 235, 236, 237, 238, 239, 240, 241, 242, 243, 244, 245, 246, 247, 248, 249, 250, 251] (by decide +kernel) (by decide +kernel)
set_option maxRecDepth 20000 in
theorem gX8_digest_X8_throughOf : GoodIn wsX8_digest (wsV RX8 208 RX8 yX8_throughOf wsX8_throughOf) := goodIn_app (goodIn_of _ (by decide +kernel)) ggX8_digest_X8_throughOf
set_option maxRecDepth 20000 in
theorem ggX8_digest_X8_reachOf : GoodIn wsX8_digest wsX8_reachOf := goodIn_r _ [129, 4, 114, 77, 78, 8, 79, 80, 81, 82, 65, 66, 67, 106, 107, 108, 109, 10, 68, 69, 70, 115, 116, 117, 118, 119, 120, 121, 122, 123, 124, 125, 36, 37, 38, 234, 235, 236, 237, 238, 239, 240, 241, 242, 243, 244, 245, 246, 247, 248, 249, 250, 251] (by decide +kernel) (by decide +kernel)
set_option maxRecDepth 20000 in
theorem gX8_digest_X8_reachOf : GoodIn wsX8_digest (wsV RX8 212 RX8 yX8_reachOf wsX8_reachOf) := goodIn_app (goodIn_of _ (by decide +kernel)) ggX8_digest_X8_reachOf
set_option maxRecDepth 20000 in
theorem ggX8_digest_X8_fitsOf : GoodIn wsX8_digest wsX8_fitsOf := goodIn_r _ [133, 3, 134, 135, 136, 8, 137, 12, 4, 138, 77, 78, 79, 80, 81, 82, 65, 66, 67, 88, 89, 90, 68, 69, 70, 234, 235, 236, 237, 238, 239, 240, 241, 242, 243, 244, 245, 246, 247, 248, 249, 250, 251] (by decide +kernel) (by decide +kernel)
set_option maxRecDepth 20000 in
theorem gX8_digest_X8_fitsOf : GoodIn wsX8_digest (wsV RX8 232 RX8 yX8_fitsOf wsX8_fitsOf) := goodIn_app (goodIn_of _ (by decide +kernel)) ggX8_digest_X8_fitsOf
set_option maxRecDepth 20000 in
theorem ggX8_digest_X8_lookOf : GoodIn wsX8_digest wsX8_lookOf := goodIn_r _ [142, 130, 131, 132, 8, 133, 3, 134, 135, 136, 137, 12, 4, 138, 77, 78, 79, 80, 81, 82, 65, 66, 67, 88, 89, 90, 68, 69, 70, 143, 144, 145, 146, 147, 55, 56, 57, 234, 235, 236, 237, 238, 239, 240, 241, 242, 243, 244, 245, 246, 247, 248, 249, 250, 251] (by decide +kernel) (by decide +kernel)
set_option maxRecDepth 20000 in
theorem gX8_digest_X8_lookOf : GoodIn wsX8_digest (wsV RX8 238 RX8 yX8_lookOf wsX8_lookOf) := goodIn_app (goodIn_of _ (by decide +kernel)) ggX8_digest_X8_lookOf
set_option maxRecDepth 20000 in
theorem ggX8_digest_X8_view : GoodIn wsX8_digest wsX8_view := goodIn_r _ [151, 14, 15, 16, 8, 17, 18, 19, 20, 21, 22, 3, 11, 23, 24, 25, 26, 27, 28, 29, 30, 4, 31, 32, 33, 34, 35, 36, 37, 38, 39, 40, 41, 42, 43, 44, 45, 46, 47, 48, 49, 50, 10, 51, 52, 53, 54, 152, 153, 154, 155, 156, 157, 158, 159, 160, 161, 162, 163, 164, 165, 166, 167, 168, 169, 170, 171, 125, 234, 235, 236, 237, 238, 239, 240, 241, 242, 243, 244, 245, 246, 247, 248, 249, 250, 251] (by decide +kernel) (by decide +kernel)
set_option maxRecDepth 20000 in
theorem gX8_digest_X8_view : GoodIn wsX8_digest (wsV RX8 291 RX8 yX8_view wsX8_view) := goodIn_app (goodIn_of _ (by decide +kernel)) ggX8_digest_X8_view
set_option maxRecDepth 20000 in
theorem ggX8_digest_X8_sees : GoodIn wsX8_digest wsX8_sees := goodIn_r _ [175, 14, 15, 16, 8, 17, 18, 19, 20, 21, 22, 3, 11, 23, 24, 25, 26, 27, 28, 29, 30, 4, 31, 32, 33, 34, 35, 36, 37, 38, 39, 40, 41, 42, 43, 44, 45, 46, 47, 48, 49, 50, 10, 51, 52, 53, 54, 152, 153, 154, 155, 156, 157, 158, 159, 176, 177, 178, 179, 168, 169, 170, 171, 125, 234, 235, 236, 237, 238, 239, 240, 241, 242, 243, 244, 245, 246, 247, 248, 249, 250, 251] (by decide +kernel) (by decide +kernel)
set_option maxRecDepth 20000 in
theorem gX8_digest_X8_sees : GoodIn wsX8_digest (wsV RX8 294 RX8 yX8_sees wsX8_sees) := goodIn_app (goodIn_of _ (by decide +kernel)) ggX8_digest_X8_sees
set_option maxRecDepth 20000 in
theorem ggX8_digest_X8_watchersOf : GoodIn wsX8_digest wsX8_watchersOf := goodIn_r _ [183, 184, 10, 176, 177, 178, 8, 179, 168, 169, 170, 171, 125, 36, 37, 38, 234, 235, 236, 237, 238, 239, 240, 241, 242, 243, 244, 245, 246, 247, 248, 249, 250, 251] (by decide +kernel) (by decide +kernel)
set_option maxRecDepth 20000 in
theorem gX8_digest_X8_watchersOf : GoodIn wsX8_digest (wsV RX8 256 RX8 yX8_watchersOf wsX8_watchersOf) := goodIn_app (goodIn_of _ (by decide +kernel)) ggX8_digest_X8_watchersOf
set_option maxRecDepth 20000 in
theorem ggX8_digest_X8_echoesOf : GoodIn wsX8_digest wsX8_echoesOf := goodIn_r _ [188, 10, 189, 190, 191, 8, 192, 164, 165, 166, 167, 168, 169, 170, 171, 125, 36, 37, 38, 234, 235, 236, 237, 238, 239, 240, 241, 242, 243, 244, 245, 246, 247, 248, 249, 250, 251] (by decide +kernel) (by decide +kernel)
set_option maxRecDepth 20000 in
theorem gX8_digest_X8_echoesOf : GoodIn wsX8_digest (wsV RX8 267 RX8 yX8_echoesOf wsX8_echoesOf) := goodIn_app (goodIn_of _ (by decide +kernel)) ggX8_digest_X8_echoesOf
set_option maxRecDepth 20000 in
theorem ggX8_digest_X8_fog : GoodIn wsX8_digest wsX8_fog := goodIn_r _ [196, 197, 14, 15, 16, 8, 17, 18, 19, 20, 21, 22, 3, 11, 23, 24, 25, 26, 27, 28, 29, 30, 4, 31, 32, 33, 34, 35, 36, 37, 38, 39, 40, 41, 42, 43, 44, 45, 46, 47, 48, 49, 50, 10, 51, 52, 53, 54, 152, 153, 154, 155, 156, 157, 158, 159, 198, 199, 200, 201, 202, 203, 204, 176, 177, 178, 179, 168, 169, 170, 171, 125, 205, 206, 207, 208, 209, 210, 211, 234, 235, 236, 237, 238, 239, 240, 241, 242, 243, 244, 245, 246, 247, 248, 249, 250, 251] (by decide +kernel) (by decide +kernel)
set_option maxRecDepth 20000 in
theorem gX8_digest_X8_fog : GoodIn wsX8_digest (wsV RX8 297 RX8 yX8_fog wsX8_fog) := goodIn_app (goodIn_of _ (by decide +kernel)) ggX8_digest_X8_fog
set_option maxRecDepth 20000 in
theorem ggX8_digest_X8_meet : GoodIn wsX8_digest wsX8_meet := goodIn_r _ [215, 14, 15, 16, 8, 17, 18, 19, 20, 21, 22, 3, 11, 23, 24, 25, 26, 27, 28, 29, 30, 4, 31, 32, 33, 34, 35, 36, 37, 38, 39, 40, 41, 42, 43, 44, 45, 46, 47, 48, 49, 50, 10, 51, 52, 53, 54, 216, 217, 218, 219, 220, 221, 222, 223, 224, 225, 226, 64, 156, 157, 158, 159, 227, 228, 229, 230, 77, 78, 79, 80, 81, 82, 65, 66, 67, 106, 107, 108, 109, 68, 69, 70, 231, 232, 233, 61, 62, 63, 234, 235, 236, 237, 238, 239, 240, 241, 242, 243, 244, 245, 246, 247, 248, 249, 250, 251] (by decide +kernel) (by decide +kernel)
set_option maxRecDepth 20000 in
theorem gX8_digest_X8_meet : GoodIn wsX8_digest (wsV RX8 300 RX8 yX8_meet wsX8_meet) := goodIn_app (goodIn_of _ (by decide +kernel)) ggX8_digest_X8_meet
theorem dX8_digest_0 : decode cX8_digest 0 = .ok (.ldc2_w 284, 3) := by decide +kernel
theorem dX8_digest_3 : decode cX8_digest 3 = .ok (.lstore_n 1, 1) := by decide +kernel
theorem dX8_digest_4 : decode cX8_digest 4 = .ok (.iconst 0, 1) := by decide +kernel
theorem dX8_digest_5 : decode cX8_digest 5 = .ok (.istore_n 3, 1) := by decide +kernel
theorem dX8_digest_6 : decode cX8_digest 6 = .ok (.iload_n 3, 1) := by decide +kernel
theorem dX8_digest_7 : decode cX8_digest 7 = .ok (.bipush 8, 2) := by decide +kernel
theorem dX8_digest_9 : decode cX8_digest 9 = .ok (.if_icmp .ge 22, 3) := by decide +kernel
theorem dX8_digest_12 : decode cX8_digest 12 = .ok (.ldc2_w 286, 3) := by decide +kernel
theorem dX8_digest_15 : decode cX8_digest 15 = .ok (.lload_n 1, 1) := by decide +kernel
theorem dX8_digest_16 : decode cX8_digest 16 = .ok (.lmul, 1) := by decide +kernel
theorem dX8_digest_17 : decode cX8_digest 17 = .ok (.aload_n 0, 1) := by decide +kernel
theorem dX8_digest_18 : decode cX8_digest 18 = .ok (.iload_n 3, 1) := by decide +kernel
theorem dX8_digest_19 : decode cX8_digest 19 = .ok (.invokevirtual 288, 3) := by decide +kernel
theorem dX8_digest_22 : decode cX8_digest 22 = .ok (.i2l, 1) := by decide +kernel
theorem dX8_digest_23 : decode cX8_digest 23 = .ok (.ladd, 1) := by decide +kernel
theorem dX8_digest_24 : decode cX8_digest 24 = .ok (.lstore_n 1, 1) := by decide +kernel
theorem dX8_digest_25 : decode cX8_digest 25 = .ok (.iinc 3 1, 3) := by decide +kernel
theorem dX8_digest_28 : decode cX8_digest 28 = .ok (.goto (-22), 3) := by decide +kernel
theorem dX8_digest_31 : decode cX8_digest 31 = .ok (.ldc2_w 286, 3) := by decide +kernel
theorem dX8_digest_34 : decode cX8_digest 34 = .ok (.lload_n 1, 1) := by decide +kernel
theorem dX8_digest_35 : decode cX8_digest 35 = .ok (.lmul, 1) := by decide +kernel
theorem dX8_digest_36 : decode cX8_digest 36 = .ok (.aload_n 0, 1) := by decide +kernel
theorem dX8_digest_37 : decode cX8_digest 37 = .ok (.invokevirtual 118, 3) := by decide +kernel
theorem dX8_digest_40 : decode cX8_digest 40 = .ok (.i2l, 1) := by decide +kernel
theorem dX8_digest_41 : decode cX8_digest 41 = .ok (.ladd, 1) := by decide +kernel
theorem dX8_digest_42 : decode cX8_digest 42 = .ok (.lstore_n 1, 1) := by decide +kernel
theorem dX8_digest_43 : decode cX8_digest 43 = .ok (.ldc2_w 286, 3) := by decide +kernel
theorem dX8_digest_46 : decode cX8_digest 46 = .ok (.lload_n 1, 1) := by decide +kernel
theorem dX8_digest_47 : decode cX8_digest 47 = .ok (.lmul, 1) := by decide +kernel
theorem dX8_digest_48 : decode cX8_digest 48 = .ok (.aload_n 0, 1) := by decide +kernel
theorem dX8_digest_49 : decode cX8_digest 49 = .ok (.invokevirtual 121, 3) := by decide +kernel
theorem dX8_digest_52 : decode cX8_digest 52 = .ok (.i2l, 1) := by decide +kernel
theorem dX8_digest_53 : decode cX8_digest 53 = .ok (.ladd, 1) := by decide +kernel
theorem dX8_digest_54 : decode cX8_digest 54 = .ok (.lstore_n 1, 1) := by decide +kernel
theorem dX8_digest_55 : decode cX8_digest 55 = .ok (.iconst 0, 1) := by decide +kernel
theorem dX8_digest_56 : decode cX8_digest 56 = .ok (.istore_n 3, 1) := by decide +kernel
theorem dX8_digest_57 : decode cX8_digest 57 = .ok (.iload_n 3, 1) := by decide +kernel
theorem dX8_digest_58 : decode cX8_digest 58 = .ok (.aload_n 0, 1) := by decide +kernel
theorem dX8_digest_59 : decode cX8_digest 59 = .ok (.getfield 90, 3) := by decide +kernel
theorem dX8_digest_62 : decode cX8_digest 62 = .ok (.if_icmp .ge 192, 3) := by decide +kernel
theorem dX8_digest_65 : decode cX8_digest 65 = .ok (.ldc2_w 286, 3) := by decide +kernel
theorem dX8_digest_68 : decode cX8_digest 68 = .ok (.lload_n 1, 1) := by decide +kernel
theorem dX8_digest_69 : decode cX8_digest 69 = .ok (.lmul, 1) := by decide +kernel
theorem dX8_digest_70 : decode cX8_digest 70 = .ok (.aload_n 0, 1) := by decide +kernel
theorem dX8_digest_71 : decode cX8_digest 71 = .ok (.getfield 28, 3) := by decide +kernel
theorem dX8_digest_74 : decode cX8_digest 74 = .ok (.iload_n 3, 1) := by decide +kernel
theorem dX8_digest_75 : decode cX8_digest 75 = .ok (.iaload, 1) := by decide +kernel
theorem dX8_digest_76 : decode cX8_digest 76 = .ok (.iconst 1, 1) := by decide +kernel
theorem dX8_digest_77 : decode cX8_digest 77 = .ok (.invokestatic 132, 3) := by decide +kernel
theorem dX8_digest_80 : decode cX8_digest 80 = .ok (.i2l, 1) := by decide +kernel
theorem dX8_digest_81 : decode cX8_digest 81 = .ok (.ladd, 1) := by decide +kernel
theorem dX8_digest_82 : decode cX8_digest 82 = .ok (.lstore_n 1, 1) := by decide +kernel
theorem dX8_digest_83 : decode cX8_digest 83 = .ok (.iconst 0, 1) := by decide +kernel
theorem dX8_digest_84 : decode cX8_digest 84 = .ok (.istore 4, 2) := by decide +kernel
theorem dX8_digest_86 : decode cX8_digest 86 = .ok (.iload 4, 2) := by decide +kernel
theorem dX8_digest_88 : decode cX8_digest 88 = .ok (.iconst 4, 1) := by decide +kernel
theorem dX8_digest_89 : decode cX8_digest 89 = .ok (.if_icmp .ge 28, 3) := by decide +kernel
theorem dX8_digest_92 : decode cX8_digest 92 = .ok (.ldc2_w 286, 3) := by decide +kernel
theorem dX8_digest_95 : decode cX8_digest 95 = .ok (.lload_n 1, 1) := by decide +kernel
theorem dX8_digest_96 : decode cX8_digest 96 = .ok (.lmul, 1) := by decide +kernel
theorem dX8_digest_97 : decode cX8_digest 97 = .ok (.aload_n 0, 1) := by decide +kernel
theorem dX8_digest_98 : decode cX8_digest 98 = .ok (.getfield 28, 3) := by decide +kernel
theorem dX8_digest_101 : decode cX8_digest 101 = .ok (.iload_n 3, 1) := by decide +kernel
theorem dX8_digest_102 : decode cX8_digest 102 = .ok (.iaload, 1) := by decide +kernel
theorem dX8_digest_103 : decode cX8_digest 103 = .ok (.iload 4, 2) := by decide +kernel
theorem dX8_digest_105 : decode cX8_digest 105 = .ok (.invokestatic 156, 3) := by decide +kernel
theorem dX8_digest_108 : decode cX8_digest 108 = .ok (.i2l, 1) := by decide +kernel
theorem dX8_digest_109 : decode cX8_digest 109 = .ok (.ladd, 1) := by decide +kernel
theorem dX8_digest_110 : decode cX8_digest 110 = .ok (.lstore_n 1, 1) := by decide +kernel
theorem dX8_digest_111 : decode cX8_digest 111 = .ok (.iinc 4 1, 3) := by decide +kernel
theorem dX8_digest_114 : decode cX8_digest 114 = .ok (.goto (-28), 3) := by decide +kernel
theorem dX8_digest_117 : decode cX8_digest 117 = .ok (.iconst 0, 1) := by decide +kernel
theorem dX8_digest_118 : decode cX8_digest 118 = .ok (.istore 4, 2) := by decide +kernel
theorem dX8_digest_120 : decode cX8_digest 120 = .ok (.iload 4, 2) := by decide +kernel
theorem dX8_digest_122 : decode cX8_digest 122 = .ok (.iconst 3, 1) := by decide +kernel
theorem dX8_digest_123 : decode cX8_digest 123 = .ok (.if_icmp .ge 24, 3) := by decide +kernel
theorem dX8_digest_126 : decode cX8_digest 126 = .ok (.ldc2_w 286, 3) := by decide +kernel
theorem dX8_digest_129 : decode cX8_digest 129 = .ok (.lload_n 1, 1) := by decide +kernel
theorem dX8_digest_130 : decode cX8_digest 130 = .ok (.lmul, 1) := by decide +kernel
theorem dX8_digest_131 : decode cX8_digest 131 = .ok (.aload_n 0, 1) := by decide +kernel
theorem dX8_digest_132 : decode cX8_digest 132 = .ok (.iload_n 3, 1) := by decide +kernel
theorem dX8_digest_133 : decode cX8_digest 133 = .ok (.iload 4, 2) := by decide +kernel
theorem dX8_digest_135 : decode cX8_digest 135 = .ok (.invokevirtual 172, 3) := by decide +kernel
theorem dX8_digest_138 : decode cX8_digest 138 = .ok (.i2l, 1) := by decide +kernel
theorem dX8_digest_139 : decode cX8_digest 139 = .ok (.ladd, 1) := by decide +kernel
theorem dX8_digest_140 : decode cX8_digest 140 = .ok (.lstore_n 1, 1) := by decide +kernel
theorem dX8_digest_141 : decode cX8_digest 141 = .ok (.iinc 4 1, 3) := by decide +kernel
theorem dX8_digest_144 : decode cX8_digest 144 = .ok (.goto (-24), 3) := by decide +kernel
theorem dX8_digest_147 : decode cX8_digest 147 = .ok (.ldc2_w 286, 3) := by decide +kernel
theorem dX8_digest_150 : decode cX8_digest 150 = .ok (.lload_n 1, 1) := by decide +kernel
theorem dX8_digest_151 : decode cX8_digest 151 = .ok (.lmul, 1) := by decide +kernel
theorem dX8_digest_152 : decode cX8_digest 152 = .ok (.aload_n 0, 1) := by decide +kernel
theorem dX8_digest_153 : decode cX8_digest 153 = .ok (.iload_n 3, 1) := by decide +kernel
theorem dX8_digest_154 : decode cX8_digest 154 = .ok (.iconst 0, 1) := by decide +kernel
theorem dX8_digest_155 : decode cX8_digest 155 = .ok (.invokevirtual 178, 3) := by decide +kernel
theorem dX8_digest_158 : decode cX8_digest 158 = .ok (.i2l, 1) := by decide +kernel
theorem dX8_digest_159 : decode cX8_digest 159 = .ok (.ladd, 1) := by decide +kernel
theorem dX8_digest_160 : decode cX8_digest 160 = .ok (.lstore_n 1, 1) := by decide +kernel
theorem dX8_digest_161 : decode cX8_digest 161 = .ok (.ldc2_w 286, 3) := by decide +kernel
theorem dX8_digest_164 : decode cX8_digest 164 = .ok (.lload_n 1, 1) := by decide +kernel
theorem dX8_digest_165 : decode cX8_digest 165 = .ok (.lmul, 1) := by decide +kernel
theorem dX8_digest_166 : decode cX8_digest 166 = .ok (.aload_n 0, 1) := by decide +kernel
theorem dX8_digest_167 : decode cX8_digest 167 = .ok (.iload_n 3, 1) := by decide +kernel
theorem dX8_digest_168 : decode cX8_digest 168 = .ok (.iconst 1, 1) := by decide +kernel
theorem dX8_digest_169 : decode cX8_digest 169 = .ok (.invokevirtual 178, 3) := by decide +kernel
theorem dX8_digest_172 : decode cX8_digest 172 = .ok (.i2l, 1) := by decide +kernel
theorem dX8_digest_173 : decode cX8_digest 173 = .ok (.ladd, 1) := by decide +kernel
theorem dX8_digest_174 : decode cX8_digest 174 = .ok (.lstore_n 1, 1) := by decide +kernel
theorem dX8_digest_175 : decode cX8_digest 175 = .ok (.ldc2_w 286, 3) := by decide +kernel
theorem dX8_digest_178 : decode cX8_digest 178 = .ok (.lload_n 1, 1) := by decide +kernel
theorem dX8_digest_179 : decode cX8_digest 179 = .ok (.lmul, 1) := by decide +kernel
theorem dX8_digest_180 : decode cX8_digest 180 = .ok (.aload_n 0, 1) := by decide +kernel
theorem dX8_digest_181 : decode cX8_digest 181 = .ok (.iload_n 3, 1) := by decide +kernel
theorem dX8_digest_182 : decode cX8_digest 182 = .ok (.invokevirtual 181, 3) := by decide +kernel
theorem dX8_digest_185 : decode cX8_digest 185 = .ok (.i2l, 1) := by decide +kernel
theorem dX8_digest_186 : decode cX8_digest 186 = .ok (.ladd, 1) := by decide +kernel
theorem dX8_digest_187 : decode cX8_digest 187 = .ok (.lstore_n 1, 1) := by decide +kernel
theorem dX8_digest_188 : decode cX8_digest 188 = .ok (.ldc2_w 286, 3) := by decide +kernel
theorem dX8_digest_191 : decode cX8_digest 191 = .ok (.lload_n 1, 1) := by decide +kernel
theorem dX8_digest_192 : decode cX8_digest 192 = .ok (.lmul, 1) := by decide +kernel
theorem dX8_digest_193 : decode cX8_digest 193 = .ok (.aload_n 0, 1) := by decide +kernel
theorem dX8_digest_194 : decode cX8_digest 194 = .ok (.aload_n 0, 1) := by decide +kernel
theorem dX8_digest_195 : decode cX8_digest 195 = .ok (.getfield 28, 3) := by decide +kernel
theorem dX8_digest_198 : decode cX8_digest 198 = .ok (.iload_n 3, 1) := by decide +kernel
theorem dX8_digest_199 : decode cX8_digest 199 = .ok (.iaload, 1) := by decide +kernel
theorem dX8_digest_200 : decode cX8_digest 200 = .ok (.iconst 0, 1) := by decide +kernel
theorem dX8_digest_201 : decode cX8_digest 201 = .ok (.invokevirtual 192, 3) := by decide +kernel
theorem dX8_digest_204 : decode cX8_digest 204 = .ok (.ifCond .eq 7, 3) := by decide +kernel
theorem dX8_digest_207 : decode cX8_digest 207 = .ok (.iconst 1, 1) := by decide +kernel
theorem dX8_digest_208 : decode cX8_digest 208 = .ok (.goto 4, 3) := by decide +kernel
theorem dX8_digest_211 : decode cX8_digest 211 = .ok (.iconst 0, 1) := by decide +kernel
theorem dX8_digest_212 : decode cX8_digest 212 = .ok (.i2l, 1) := by decide +kernel
theorem dX8_digest_213 : decode cX8_digest 213 = .ok (.ladd, 1) := by decide +kernel
theorem dX8_digest_214 : decode cX8_digest 214 = .ok (.lstore_n 1, 1) := by decide +kernel
theorem dX8_digest_215 : decode cX8_digest 215 = .ok (.ldc2_w 286, 3) := by decide +kernel
theorem dX8_digest_218 : decode cX8_digest 218 = .ok (.lload_n 1, 1) := by decide +kernel
theorem dX8_digest_219 : decode cX8_digest 219 = .ok (.lmul, 1) := by decide +kernel
theorem dX8_digest_220 : decode cX8_digest 220 = .ok (.aload_n 0, 1) := by decide +kernel
theorem dX8_digest_221 : decode cX8_digest 221 = .ok (.iload_n 3, 1) := by decide +kernel
theorem dX8_digest_222 : decode cX8_digest 222 = .ok (.iconst 0, 1) := by decide +kernel
theorem dX8_digest_223 : decode cX8_digest 223 = .ok (.iconst 0, 1) := by decide +kernel
theorem dX8_digest_224 : decode cX8_digest 224 = .ok (.iconst 1, 1) := by decide +kernel
theorem dX8_digest_225 : decode cX8_digest 225 = .ok (.bipush 9, 2) := by decide +kernel
theorem dX8_digest_227 : decode cX8_digest 227 = .ok (.invokevirtual 208, 3) := by decide +kernel
theorem dX8_digest_230 : decode cX8_digest 230 = .ok (.i2l, 1) := by decide +kernel
theorem dX8_digest_231 : decode cX8_digest 231 = .ok (.ladd, 1) := by decide +kernel
theorem dX8_digest_232 : decode cX8_digest 232 = .ok (.lstore_n 1, 1) := by decide +kernel
theorem dX8_digest_233 : decode cX8_digest 233 = .ok (.ldc2_w 286, 3) := by decide +kernel
theorem dX8_digest_236 : decode cX8_digest 236 = .ok (.lload_n 1, 1) := by decide +kernel
theorem dX8_digest_237 : decode cX8_digest 237 = .ok (.lmul, 1) := by decide +kernel
theorem dX8_digest_238 : decode cX8_digest 238 = .ok (.aload_n 0, 1) := by decide +kernel
theorem dX8_digest_239 : decode cX8_digest 239 = .ok (.iload_n 3, 1) := by decide +kernel
theorem dX8_digest_240 : decode cX8_digest 240 = .ok (.iconst 0, 1) := by decide +kernel
theorem dX8_digest_241 : decode cX8_digest 241 = .ok (.iconst 0, 1) := by decide +kernel
theorem dX8_digest_242 : decode cX8_digest 242 = .ok (.invokevirtual 212, 3) := by decide +kernel
theorem dX8_digest_245 : decode cX8_digest 245 = .ok (.i2l, 1) := by decide +kernel
theorem dX8_digest_246 : decode cX8_digest 246 = .ok (.ladd, 1) := by decide +kernel
theorem dX8_digest_247 : decode cX8_digest 247 = .ok (.lstore_n 1, 1) := by decide +kernel
theorem dX8_digest_248 : decode cX8_digest 248 = .ok (.iinc 3 1, 3) := by decide +kernel
theorem dX8_digest_251 : decode cX8_digest 251 = .ok (.goto (-194), 3) := by decide +kernel
theorem dX8_digest_254 : decode cX8_digest 254 = .ok (.iconst 0, 1) := by decide +kernel
theorem dX8_digest_255 : decode cX8_digest 255 = .ok (.istore_n 3, 1) := by decide +kernel
theorem dX8_digest_256 : decode cX8_digest 256 = .ok (.iload_n 3, 1) := by decide +kernel
theorem dX8_digest_257 : decode cX8_digest 257 = .ok (.iconst 2, 1) := by decide +kernel
theorem dX8_digest_258 : decode cX8_digest 258 = .ok (.if_icmp .ge 22, 3) := by decide +kernel
theorem dX8_digest_261 : decode cX8_digest 261 = .ok (.ldc2_w 286, 3) := by decide +kernel
theorem dX8_digest_264 : decode cX8_digest 264 = .ok (.lload_n 1, 1) := by decide +kernel
theorem dX8_digest_265 : decode cX8_digest 265 = .ok (.lmul, 1) := by decide +kernel
theorem dX8_digest_266 : decode cX8_digest 266 = .ok (.aload_n 0, 1) := by decide +kernel
theorem dX8_digest_267 : decode cX8_digest 267 = .ok (.iload_n 3, 1) := by decide +kernel
theorem dX8_digest_268 : decode cX8_digest 268 = .ok (.invokevirtual 232, 3) := by decide +kernel
theorem dX8_digest_271 : decode cX8_digest 271 = .ok (.i2l, 1) := by decide +kernel
theorem dX8_digest_272 : decode cX8_digest 272 = .ok (.ladd, 1) := by decide +kernel
theorem dX8_digest_273 : decode cX8_digest 273 = .ok (.lstore_n 1, 1) := by decide +kernel
theorem dX8_digest_274 : decode cX8_digest 274 = .ok (.iinc 3 1, 3) := by decide +kernel
theorem dX8_digest_277 : decode cX8_digest 277 = .ok (.goto (-21), 3) := by decide +kernel
theorem dX8_digest_280 : decode cX8_digest 280 = .ok (.iconst 0, 1) := by decide +kernel
theorem dX8_digest_281 : decode cX8_digest 281 = .ok (.istore_n 3, 1) := by decide +kernel
theorem dX8_digest_282 : decode cX8_digest 282 = .ok (.iload_n 3, 1) := by decide +kernel
theorem dX8_digest_283 : decode cX8_digest 283 = .ok (.iconst 2, 1) := by decide +kernel
theorem dX8_digest_284 : decode cX8_digest 284 = .ok (.if_icmp .ge 22, 3) := by decide +kernel
theorem dX8_digest_287 : decode cX8_digest 287 = .ok (.ldc2_w 286, 3) := by decide +kernel
theorem dX8_digest_290 : decode cX8_digest 290 = .ok (.lload_n 1, 1) := by decide +kernel
theorem dX8_digest_291 : decode cX8_digest 291 = .ok (.lmul, 1) := by decide +kernel
theorem dX8_digest_292 : decode cX8_digest 292 = .ok (.aload_n 0, 1) := by decide +kernel
theorem dX8_digest_293 : decode cX8_digest 293 = .ok (.iload_n 3, 1) := by decide +kernel
theorem dX8_digest_294 : decode cX8_digest 294 = .ok (.invokevirtual 238, 3) := by decide +kernel
theorem dX8_digest_297 : decode cX8_digest 297 = .ok (.i2l, 1) := by decide +kernel
theorem dX8_digest_298 : decode cX8_digest 298 = .ok (.ladd, 1) := by decide +kernel
theorem dX8_digest_299 : decode cX8_digest 299 = .ok (.lstore_n 1, 1) := by decide +kernel
theorem dX8_digest_300 : decode cX8_digest 300 = .ok (.iinc 3 1, 3) := by decide +kernel
theorem dX8_digest_303 : decode cX8_digest 303 = .ok (.goto (-21), 3) := by decide +kernel
theorem dX8_digest_306 : decode cX8_digest 306 = .ok (.ldc2_w 286, 3) := by decide +kernel
theorem dX8_digest_309 : decode cX8_digest 309 = .ok (.lload_n 1, 1) := by decide +kernel
theorem dX8_digest_310 : decode cX8_digest 310 = .ok (.lmul, 1) := by decide +kernel
theorem dX8_digest_311 : decode cX8_digest 311 = .ok (.aload_n 0, 1) := by decide +kernel
theorem dX8_digest_312 : decode cX8_digest 312 = .ok (.iconst 0, 1) := by decide +kernel
theorem dX8_digest_313 : decode cX8_digest 313 = .ok (.invokevirtual 291, 3) := by decide +kernel
theorem dX8_digest_316 : decode cX8_digest 316 = .ok (.i2l, 1) := by decide +kernel
theorem dX8_digest_317 : decode cX8_digest 317 = .ok (.ladd, 1) := by decide +kernel
theorem dX8_digest_318 : decode cX8_digest 318 = .ok (.lstore_n 1, 1) := by decide +kernel
theorem dX8_digest_319 : decode cX8_digest 319 = .ok (.ldc2_w 286, 3) := by decide +kernel
theorem dX8_digest_322 : decode cX8_digest 322 = .ok (.lload_n 1, 1) := by decide +kernel
theorem dX8_digest_323 : decode cX8_digest 323 = .ok (.lmul, 1) := by decide +kernel
theorem dX8_digest_324 : decode cX8_digest 324 = .ok (.aload_n 0, 1) := by decide +kernel
theorem dX8_digest_325 : decode cX8_digest 325 = .ok (.bipush 9, 2) := by decide +kernel
theorem dX8_digest_327 : decode cX8_digest 327 = .ok (.invokevirtual 291, 3) := by decide +kernel
theorem dX8_digest_330 : decode cX8_digest 330 = .ok (.i2l, 1) := by decide +kernel
theorem dX8_digest_331 : decode cX8_digest 331 = .ok (.ladd, 1) := by decide +kernel
theorem dX8_digest_332 : decode cX8_digest 332 = .ok (.lstore_n 1, 1) := by decide +kernel
theorem dX8_digest_333 : decode cX8_digest 333 = .ok (.ldc2_w 286, 3) := by decide +kernel
theorem dX8_digest_336 : decode cX8_digest 336 = .ok (.lload_n 1, 1) := by decide +kernel
theorem dX8_digest_337 : decode cX8_digest 337 = .ok (.lmul, 1) := by decide +kernel
theorem dX8_digest_338 : decode cX8_digest 338 = .ok (.aload_n 0, 1) := by decide +kernel
theorem dX8_digest_339 : decode cX8_digest 339 = .ok (.iconst 0, 1) := by decide +kernel
theorem dX8_digest_340 : decode cX8_digest 340 = .ok (.iconst 2, 1) := by decide +kernel
theorem dX8_digest_341 : decode cX8_digest 341 = .ok (.invokevirtual 294, 3) := by decide +kernel
theorem dX8_digest_344 : decode cX8_digest 344 = .ok (.i2l, 1) := by decide +kernel
theorem dX8_digest_345 : decode cX8_digest 345 = .ok (.ladd, 1) := by decide +kernel
theorem dX8_digest_346 : decode cX8_digest 346 = .ok (.lstore_n 1, 1) := by decide +kernel
theorem dX8_digest_347 : decode cX8_digest 347 = .ok (.iconst 0, 1) := by decide +kernel
theorem dX8_digest_348 : decode cX8_digest 348 = .ok (.istore_n 3, 1) := by decide +kernel
theorem dX8_digest_349 : decode cX8_digest 349 = .ok (.iload_n 3, 1) := by decide +kernel
theorem dX8_digest_350 : decode cX8_digest 350 = .ok (.iconst 3, 1) := by decide +kernel
theorem dX8_digest_351 : decode cX8_digest 351 = .ok (.if_icmp .ge 22, 3) := by decide +kernel
theorem dX8_digest_354 : decode cX8_digest 354 = .ok (.ldc2_w 286, 3) := by decide +kernel
theorem dX8_digest_357 : decode cX8_digest 357 = .ok (.lload_n 1, 1) := by decide +kernel
theorem dX8_digest_358 : decode cX8_digest 358 = .ok (.lmul, 1) := by decide +kernel
theorem dX8_digest_359 : decode cX8_digest 359 = .ok (.aload_n 0, 1) := by decide +kernel
theorem dX8_digest_360 : decode cX8_digest 360 = .ok (.iload_n 3, 1) := by decide +kernel
theorem dX8_digest_361 : decode cX8_digest 361 = .ok (.invokevirtual 256, 3) := by decide +kernel
theorem dX8_digest_364 : decode cX8_digest 364 = .ok (.i2l, 1) := by decide +kernel
theorem dX8_digest_365 : decode cX8_digest 365 = .ok (.ladd, 1) := by decide +kernel
theorem dX8_digest_366 : decode cX8_digest 366 = .ok (.lstore_n 1, 1) := by decide +kernel
theorem dX8_digest_367 : decode cX8_digest 367 = .ok (.iinc 3 1, 3) := by decide +kernel
theorem dX8_digest_370 : decode cX8_digest 370 = .ok (.goto (-21), 3) := by decide +kernel
theorem dX8_digest_373 : decode cX8_digest 373 = .ok (.iconst 0, 1) := by decide +kernel
theorem dX8_digest_374 : decode cX8_digest 374 = .ok (.istore_n 3, 1) := by decide +kernel
theorem dX8_digest_375 : decode cX8_digest 375 = .ok (.iload_n 3, 1) := by decide +kernel
theorem dX8_digest_376 : decode cX8_digest 376 = .ok (.iconst 2, 1) := by decide +kernel
theorem dX8_digest_377 : decode cX8_digest 377 = .ok (.if_icmp .ge 26, 3) := by decide +kernel
theorem dX8_digest_380 : decode cX8_digest 380 = .ok (.ldc2_w 286, 3) := by decide +kernel
theorem dX8_digest_383 : decode cX8_digest 383 = .ok (.lload_n 1, 1) := by decide +kernel
theorem dX8_digest_384 : decode cX8_digest 384 = .ok (.lmul, 1) := by decide +kernel
theorem dX8_digest_385 : decode cX8_digest 385 = .ok (.aload_n 0, 1) := by decide +kernel
theorem dX8_digest_386 : decode cX8_digest 386 = .ok (.iconst 1, 1) := by decide +kernel
theorem dX8_digest_387 : decode cX8_digest 387 = .ok (.iconst (-1), 1) := by decide +kernel
theorem dX8_digest_388 : decode cX8_digest 388 = .ok (.iconst (-1), 1) := by decide +kernel
theorem dX8_digest_389 : decode cX8_digest 389 = .ok (.iconst (-1), 1) := by decide +kernel
theorem dX8_digest_390 : decode cX8_digest 390 = .ok (.iload_n 3, 1) := by decide +kernel
theorem dX8_digest_391 : decode cX8_digest 391 = .ok (.invokevirtual 267, 3) := by decide +kernel
theorem dX8_digest_394 : decode cX8_digest 394 = .ok (.i2l, 1) := by decide +kernel
theorem dX8_digest_395 : decode cX8_digest 395 = .ok (.ladd, 1) := by decide +kernel
theorem dX8_digest_396 : decode cX8_digest 396 = .ok (.lstore_n 1, 1) := by decide +kernel
theorem dX8_digest_397 : decode cX8_digest 397 = .ok (.iinc 3 1, 3) := by decide +kernel
theorem dX8_digest_400 : decode cX8_digest 400 = .ok (.goto (-25), 3) := by decide +kernel
theorem dX8_digest_403 : decode cX8_digest 403 = .ok (.iconst 0, 1) := by decide +kernel
theorem dX8_digest_404 : decode cX8_digest 404 = .ok (.istore_n 3, 1) := by decide +kernel
theorem dX8_digest_405 : decode cX8_digest 405 = .ok (.iload_n 3, 1) := by decide +kernel
theorem dX8_digest_406 : decode cX8_digest 406 = .ok (.iconst 2, 1) := by decide +kernel
theorem dX8_digest_407 : decode cX8_digest 407 = .ok (.if_icmp .ge 24, 3) := by decide +kernel
theorem dX8_digest_410 : decode cX8_digest 410 = .ok (.ldc2_w 286, 3) := by decide +kernel
theorem dX8_digest_413 : decode cX8_digest 413 = .ok (.lload_n 1, 1) := by decide +kernel
theorem dX8_digest_414 : decode cX8_digest 414 = .ok (.lmul, 1) := by decide +kernel
theorem dX8_digest_415 : decode cX8_digest 415 = .ok (.aload_n 0, 1) := by decide +kernel
theorem dX8_digest_416 : decode cX8_digest 416 = .ok (.iconst 0, 1) := by decide +kernel
theorem dX8_digest_417 : decode cX8_digest 417 = .ok (.iconst 2, 1) := by decide +kernel
theorem dX8_digest_418 : decode cX8_digest 418 = .ok (.iconst 4, 1) := by decide +kernel
theorem dX8_digest_419 : decode cX8_digest 419 = .ok (.iload_n 3, 1) := by decide +kernel
theorem dX8_digest_420 : decode cX8_digest 420 = .ok (.invokevirtual 297, 3) := by decide +kernel
theorem dX8_digest_423 : decode cX8_digest 423 = .ok (.ladd, 1) := by decide +kernel
theorem dX8_digest_424 : decode cX8_digest 424 = .ok (.lstore_n 1, 1) := by decide +kernel
theorem dX8_digest_425 : decode cX8_digest 425 = .ok (.iinc 3 1, 3) := by decide +kernel
theorem dX8_digest_428 : decode cX8_digest 428 = .ok (.goto (-23), 3) := by decide +kernel
theorem dX8_digest_431 : decode cX8_digest 431 = .ok (.ldc2_w 286, 3) := by decide +kernel
theorem dX8_digest_434 : decode cX8_digest 434 = .ok (.lload_n 1, 1) := by decide +kernel
theorem dX8_digest_435 : decode cX8_digest 435 = .ok (.lmul, 1) := by decide +kernel
theorem dX8_digest_436 : decode cX8_digest 436 = .ok (.aload_n 0, 1) := by decide +kernel
theorem dX8_digest_437 : decode cX8_digest 437 = .ok (.iconst 0, 1) := by decide +kernel
theorem dX8_digest_438 : decode cX8_digest 438 = .ok (.iconst 0, 1) := by decide +kernel
theorem dX8_digest_439 : decode cX8_digest 439 = .ok (.iconst 0, 1) := by decide +kernel
theorem dX8_digest_440 : decode cX8_digest 440 = .ok (.iconst 1, 1) := by decide +kernel
theorem dX8_digest_441 : decode cX8_digest 441 = .ok (.iconst 0, 1) := by decide +kernel
theorem dX8_digest_442 : decode cX8_digest 442 = .ok (.iconst 2, 1) := by decide +kernel
theorem dX8_digest_443 : decode cX8_digest 443 = .ok (.invokevirtual 300, 3) := by decide +kernel
theorem dX8_digest_446 : decode cX8_digest 446 = .ok (.i2l, 1) := by decide +kernel
theorem dX8_digest_447 : decode cX8_digest 447 = .ok (.ladd, 1) := by decide +kernel
theorem dX8_digest_448 : decode cX8_digest 448 = .ok (.lreturn, 1) := by decide +kernel
theorem iw_X8_digest_X8 : ∀ w ∈ u_ws RX8 TX8 18, w ∈ wsX8_digest := by decide +kernel
theorem lk_X8_digest_0 : Cond.constantLong RX8 284 17 ∈ wsX8_digest := by decide +kernel
theorem lk_X8_digest_1 : Cond.constantLong RX8 286 31 ∈ wsX8_digest := by decide +kernel
theorem lk_X8_digest_2 : Cond.fieldLink RX8 90 (TX8 8).1 (TX8 8).2.1 (TX8 8).2.2.1 ∈ wsX8_digest := by decide +kernel
theorem lk_X8_digest_3 : Cond.fieldLink RX8 28 (TX8 9).1 (TX8 9).2.1 (TX8 9).2.2.1 ∈ wsX8_digest := by decide +kernel
set_option maxRecDepth 100000 in
theorem r_X8_digest_0 {X : Bn} (C : Cx X cX8_digest 5 RX8 wsX8_digest 6 146) (ad : Nat → Nat) (S : MS) (h : At X 5 (mW X.E ad S) 6 [(0, .ref (ad 0)), (1, .long 17), (3, .int 0)] []) : At X 5 (mW X.E ad S) 0 [(0, .ref (ad 0))] [] := by
  refine at_ldc2 C lk_X8_digest_0 dX8_digest_0 ?_
  refine at_lstore_n C dX8_digest_3 rfl (by decide) (lv' := [(1, .long 17), (0, .ref (ad 0))]) rfl ?_
  refine at_iconst C dX8_digest_4 (v := 0) rfl ?_
  refine at_istore_n C dX8_digest_5 rfl (by decide) (lv' := [(3, .int 0), (1, .long 17), (0, .ref (ad 0))]) rfl ?_
  refine at_lv [2, 1, 0] rfl ?_
  exact h
set_option maxRecDepth 100000 in
theorem r_X8_digest_6 {X : Bn} (C : Cx X cX8_digest 5 RX8 wsX8_digest 6 146) (ad : Nat → Nat) (S : MS) (x1 : Int64) (x3 : Int32) (h : ((8 ≤ x3) → (∃ (r1 : Int32) (S1 : MS), (Fn X.l X.D X.E X.a1 X.a2 yX8_readsShapes wsX8_readsShapes 2 49 [.ref (ad 0)] (mW X.E ad S) (some (.int r1)) (mW X.E ad S1)) ∧ (∃ (r2 : Int32) (S2 : MS), (Fn X.l X.D X.E X.a1 X.a2 yX8_readsHouse wsX8_readsHouse 2 45 [.ref (ad 0)] (mW X.E ad S1) (some (.int r2)) (mW X.E ad S2)) ∧ (At X 5 (mW X.E ad S2) 57 [(0, .ref (ad 0)), (1, .long ((31 * ((31 * x1) + r1.toInt64)) + r2.toInt64)), (3, .int 0)] [])))) ∧ (¬ 8 ≤ x3 → (∃ (r3 : Int32) (S3 : MS), (Fn X.l X.D X.E X.a1 X.a2 yX8_count wsX8_count 4 90 [.ref (ad 0), .int x3] (mW X.E ad S) (some (.int r3)) (mW X.E ad S3)) ∧ (At X 5 (mW X.E ad S3) 6 [(0, .ref (ad 0)), (1, .long ((31 * x1) + r3.toInt64)), (3, .int (x3 + 1))] [])))) : At X 5 (mW X.E ad S) 6 [(0, .ref (ad 0)), (1, .long x1), (3, .int x3)] [] := by
  refine at_iload_n C dX8_digest_6 rfl (j := 2) rfl ?_
  refine at_bipush C dX8_digest_7 (v := 8) rfl ?_
  refine at_icmp_ge C dX8_digest_9 (tgt := 31) (by decide) (fun hc0 => ?_) (fun hc0 => ?_)
  · replace h := h.1 hc0
    refine at_ldc2 C lk_X8_digest_1 dX8_digest_31 ?_
    refine at_lload_n C dX8_digest_34 rfl (j := 1) rfl ?_
    refine at_lmul C dX8_digest_35 ?_
    refine at_aload_n C dX8_digest_36 rfl (j := 0) rfl ?_
    obtain ⟨r1, S1, hF1, h⟩ := h
    refine at_cV1 C 0 hF1 gX8_digest_X8_readsShapes rfl (by decide +kernel) ⟨rfl, rfl⟩ rfl rfl rfl 0 mW_c0 rfl dX8_digest_37 ?_
    refine at_i2l C dX8_digest_40 ?_
    refine at_ladd C dX8_digest_41 ?_
    refine at_lstore_n C dX8_digest_42 rfl (by decide) (lv' := [(1, .long ((31 * x1) + r1.toInt64)), (0, .ref (ad 0)), (3, .int x3)]) rfl ?_
    refine at_ldc2 C lk_X8_digest_1 dX8_digest_43 ?_
    refine at_lload_n C dX8_digest_46 rfl (j := 0) rfl ?_
    refine at_lmul C dX8_digest_47 ?_
    refine at_aload_n C dX8_digest_48 rfl (j := 1) rfl ?_
    obtain ⟨r2, S2, hF2, h⟩ := h
    refine at_cV1 C 0 hF2 gX8_digest_X8_readsHouse rfl (by decide +kernel) ⟨rfl, rfl⟩ rfl rfl rfl 0 mW_c0 rfl dX8_digest_49 ?_
    refine at_i2l C dX8_digest_52 ?_
    refine at_ladd C dX8_digest_53 ?_
    refine at_lstore_n C dX8_digest_54 rfl (by decide) (lv' := [(1, .long ((31 * ((31 * x1) + r1.toInt64)) + r2.toInt64)), (0, .ref (ad 0)), (3, .int x3)]) rfl ?_
    refine at_iconst C dX8_digest_55 (v := 0) rfl ?_
    refine at_istore_n C dX8_digest_56 rfl (by decide) (lv' := [(3, .int 0), (1, .long ((31 * ((31 * x1) + r1.toInt64)) + r2.toInt64)), (0, .ref (ad 0))]) rfl ?_
    refine at_lv [2, 1, 0] rfl ?_
    exact h
  · replace h := h.2 hc0
    refine at_ldc2 C lk_X8_digest_1 dX8_digest_12 ?_
    refine at_lload_n C dX8_digest_15 rfl (j := 1) rfl ?_
    refine at_lmul C dX8_digest_16 ?_
    refine at_aload_n C dX8_digest_17 rfl (j := 0) rfl ?_
    refine at_iload_n C dX8_digest_18 rfl (j := 2) rfl ?_
    obtain ⟨r3, S3, hF3, h⟩ := h
    refine at_cV1 C 1 hF3 gX8_digest_X8_count rfl (by decide +kernel) ⟨rfl, rfl⟩ rfl rfl rfl 0 mW_c0 rfl dX8_digest_19 ?_
    refine at_i2l C dX8_digest_22 ?_
    refine at_ladd C dX8_digest_23 ?_
    refine at_lstore_n C dX8_digest_24 rfl (by decide) (lv' := [(1, .long ((31 * x1) + r3.toInt64)), (0, .ref (ad 0)), (3, .int x3)]) rfl ?_
    refine at_iinc C dX8_digest_25 (j := 2) (v := x3 + 1) rfl rfl (by decide) (lv' := [(3, .int (x3 + 1)), (1, .long ((31 * x1) + r3.toInt64)), (0, .ref (ad 0))]) rfl ?_
    refine at_goto C dX8_digest_28 (tgt := 6) (by decide) ?_
    refine at_lv [2, 1, 0] rfl ?_
    exact h
set_option maxRecDepth 100000 in
theorem r_X8_digest_57 {X : Bn} (C : Cx X cX8_digest 5 RX8 wsX8_digest 6 146) (ad : Nat → Nat) (S : MS) (x1 : Int64) (x3 : Int32) (h : ((S.1 8 0 ≤ x3) → (At X 5 (mW X.E ad S) 256 [(0, .ref (ad 0)), (1, .long x1), (3, .int 0)] [])) ∧ (¬ S.1 8 0 ≤ x3 → ((vp_in x3 8) ∧ (At X 5 (mW X.E ad S) 86 [(0, .ref (ad 0)), (1, .long ((31 * x1) + ((f_X8_turned (S.1 9 x3.toNatClampNeg) (1 : Int32)).toInt64))), (3, .int x3), (4, .int 0)] [])))) : At X 5 (mW X.E ad S) 57 [(0, .ref (ad 0)), (1, .long x1), (3, .int x3)] [] := by
  refine at_iload_n C dX8_digest_57 rfl (j := 2) rfl ?_
  refine at_aload_n C dX8_digest_58 rfl (j := 0) rfl ?_
  refine at_get C (K := RX8) (T := TX8) (N := 18) (ci := 7) (v := .int (S.1 8 0)) iw_X8_digest_X8 0 mW_c0 rfl 8 (by decide) lk_X8_digest_2 rfl dX8_digest_59 ?_
  refine at_icmp_ge C dX8_digest_62 (tgt := 254) (by decide) (fun hc1 => ?_) (fun hc1 => ?_)
  · replace h := h.1 hc1
    refine at_iconst C dX8_digest_254 (v := 0) rfl ?_
    refine at_istore_n C dX8_digest_255 rfl (by decide) (lv' := [(3, .int 0), (0, .ref (ad 0)), (1, .long x1)]) rfl ?_
    refine at_lv [1, 2, 0] rfl ?_
    exact h
  · replace h := h.2 hc1
    refine at_ldc2 C lk_X8_digest_1 dX8_digest_65 ?_
    refine at_lload_n C dX8_digest_68 rfl (j := 1) rfl ?_
    refine at_lmul C dX8_digest_69 ?_
    refine at_aload_n C dX8_digest_70 rfl (j := 0) rfl ?_
    refine at_get C (K := RX8) (T := TX8) (N := 18) (ci := 7) (v := .ref (ad 7)) iw_X8_digest_X8 0 mW_c0 rfl 9 (by decide) lk_X8_digest_3 rfl dX8_digest_71 ?_
    refine at_iload_n C dX8_digest_74 rfl (j := 2) rfl ?_
    refine at_iald C 7 mW_c7 h.1 dX8_digest_75 ?_
    replace h := h.2
    refine at_iconst C dX8_digest_76 (v := 1) rfl ?_
    refine at_cS0 C 2 (c_X8_turned X.l X.D X.E X.a1 X.a2 (S.1 9 x3.toNatClampNeg) (1 : Int32)) gX8_digest_X8_turned rfl (by decide +kernel) ⟨rfl, rfl⟩ rfl rfl rfl dX8_digest_77 ?_
    refine at_i2l C dX8_digest_80 ?_
    refine at_ladd C dX8_digest_81 ?_
    refine at_lstore_n C dX8_digest_82 rfl (by decide) (lv' := [(1, .long ((31 * x1) + ((f_X8_turned (S.1 9 x3.toNatClampNeg) (1 : Int32)).toInt64))), (0, .ref (ad 0)), (3, .int x3)]) rfl ?_
    refine at_iconst C dX8_digest_83 (v := 0) rfl ?_
    refine at_istore C dX8_digest_84 (by decide) (lv' := [(4, .int 0), (1, .long ((31 * x1) + ((f_X8_turned (S.1 9 x3.toNatClampNeg) (1 : Int32)).toInt64))), (0, .ref (ad 0)), (3, .int x3)]) rfl ?_
    refine at_lv [2, 1, 3, 0] rfl ?_
    exact h
set_option maxRecDepth 100000 in
theorem r_X8_digest_86 {X : Bn} (C : Cx X cX8_digest 5 RX8 wsX8_digest 6 146) (ad : Nat → Nat) (S : MS) (x1 : Int64) (x3 : Int32) (x4 : Int32) (h : ((4 ≤ x4) → (At X 5 (mW X.E ad S) 120 [(0, .ref (ad 0)), (1, .long x1), (3, .int x3), (4, .int 0)] [])) ∧ (¬ 4 ≤ x4 → ((vp_in x3 8) ∧ (At X 5 (mW X.E ad S) 86 [(0, .ref (ad 0)), (1, .long ((31 * x1) + ((f_X8_sightOf (S.1 9 x3.toNatClampNeg) x4).toInt64))), (3, .int x3), (4, .int (x4 + 1))] [])))) : At X 5 (mW X.E ad S) 86 [(0, .ref (ad 0)), (1, .long x1), (3, .int x3), (4, .int x4)] [] := by
  refine at_iload C dX8_digest_86 (j := 3) rfl ?_
  refine at_iconst C dX8_digest_88 (v := 4) rfl ?_
  refine at_icmp_ge C dX8_digest_89 (tgt := 117) (by decide) (fun hc2 => ?_) (fun hc2 => ?_)
  · replace h := h.1 hc2
    refine at_iconst C dX8_digest_117 (v := 0) rfl ?_
    refine at_istore C dX8_digest_118 (by decide) (lv' := [(4, .int 0), (0, .ref (ad 0)), (1, .long x1), (3, .int x3)]) rfl ?_
    refine at_lv [1, 2, 3, 0] rfl ?_
    exact h
  · replace h := h.2 hc2
    refine at_ldc2 C lk_X8_digest_1 dX8_digest_92 ?_
    refine at_lload_n C dX8_digest_95 rfl (j := 1) rfl ?_
    refine at_lmul C dX8_digest_96 ?_
    refine at_aload_n C dX8_digest_97 rfl (j := 0) rfl ?_
    refine at_get C (K := RX8) (T := TX8) (N := 18) (ci := 7) (v := .ref (ad 7)) iw_X8_digest_X8 0 mW_c0 rfl 9 (by decide) lk_X8_digest_3 rfl dX8_digest_98 ?_
    refine at_iload_n C dX8_digest_101 rfl (j := 2) rfl ?_
    refine at_iald C 7 mW_c7 h.1 dX8_digest_102 ?_
    replace h := h.2
    refine at_iload C dX8_digest_103 (j := 3) rfl ?_
    refine at_cS0 C 2 (c_X8_sightOf X.l X.D X.E X.a1 X.a2 (S.1 9 x3.toNatClampNeg) x4) gX8_digest_X8_sightOf rfl (by decide +kernel) ⟨rfl, rfl⟩ rfl rfl rfl dX8_digest_105 ?_
    refine at_i2l C dX8_digest_108 ?_
    refine at_ladd C dX8_digest_109 ?_
    refine at_lstore_n C dX8_digest_110 rfl (by decide) (lv' := [(1, .long ((31 * x1) + ((f_X8_sightOf (S.1 9 x3.toNatClampNeg) x4).toInt64))), (0, .ref (ad 0)), (3, .int x3), (4, .int x4)]) rfl ?_
    refine at_iinc C dX8_digest_111 (j := 3) (v := x4 + 1) rfl rfl (by decide) (lv' := [(4, .int (x4 + 1)), (1, .long ((31 * x1) + ((f_X8_sightOf (S.1 9 x3.toNatClampNeg) x4).toInt64))), (0, .ref (ad 0)), (3, .int x3)]) rfl ?_
    refine at_goto C dX8_digest_114 (tgt := 86) (by decide) ?_
    refine at_lv [2, 1, 3, 0] rfl ?_
    exact h
set_option maxRecDepth 100000 in
theorem r_X8_digest_120 {X : Bn} (C : Cx X cX8_digest 5 RX8 wsX8_digest 6 146) (ad : Nat → Nat) (S : MS) (x1 : Int64) (x3 : Int32) (x4 : Int32) (h : ((3 ≤ x4) → (∃ (r4 : Int32) (S4 : MS), (Fn X.l X.D X.E X.a1 X.a2 yX8_kinOf wsX8_kinOf 4 90 [.ref (ad 0), .int x3, .int 0] (mW X.E ad S) (some (.int r4)) (mW X.E ad S4)) ∧ (∃ (r5 : Int32) (S5 : MS), (Fn X.l X.D X.E X.a1 X.a2 yX8_kinOf wsX8_kinOf 4 90 [.ref (ad 0), .int x3, .int 1] (mW X.E ad S4) (some (.int r5)) (mW X.E ad S5)) ∧ (∃ (r6 : Int32) (S6 : MS), (Fn X.l X.D X.E X.a1 X.a2 yX8_selfOf wsX8_selfOf 3 67 [.ref (ad 0), .int x3] (mW X.E ad S5) (some (.int r6)) (mW X.E ad S6)) ∧ ((vp_in x3 8) ∧ (∃ (r7 : Bool) (S7 : MS), (Fn X.l X.D X.E X.a1 X.a2 yX8_canStand wsX8_canStand 1 21 [.ref (ad 0), .int (S6.1 9 x3.toNatClampNeg), .int 0] (mW X.E ad S6) (some (.int (b2i r7))) (mW X.E ad S7)) ∧ (∃ (r8 : Int32) (S8 : MS), (Fn X.l X.D X.E X.a1 X.a2 yX8_throughOf wsX8_throughOf 5 121 [.ref (ad 0), .int x3, .int 0, .int 0, .int 1, .int 9] (mW X.E ad S7) (some (.int r8)) (mW X.E ad S8)) ∧ (∃ (r9 : Int32) (S9 : MS), (Fn X.l X.D X.E X.a1 X.a2 yX8_reachOf wsX8_reachOf 5 121 [.ref (ad 0), .int x3, .int 0, .int 0] (mW X.E ad S8) (some (.int r9)) (mW X.E ad S9)) ∧ (At X 5 (mW X.E ad S9) 57 [(0, .ref (ad 0)), (1, .long ((31 * ((31 * ((31 * ((31 * ((31 * ((31 * x1) + r4.toInt64)) + r5.toInt64)) + r6.toInt64)) + ((b2i (if r7 then true else false)).toInt64))) + r8.toInt64)) + r9.toInt64)), (3, .int (x3 + 1))] []))))))))) ∧ (¬ 3 ≤ x4 → (∃ (r10 : Int32) (S10 : MS), (Fn X.l X.D X.E X.a1 X.a2 yX8_formOf wsX8_formOf 3 72 [.ref (ad 0), .int x3, .int x4] (mW X.E ad S) (some (.int r10)) (mW X.E ad S10)) ∧ (At X 5 (mW X.E ad S10) 120 [(0, .ref (ad 0)), (1, .long ((31 * x1) + r10.toInt64)), (3, .int x3), (4, .int (x4 + 1))] [])))) : At X 5 (mW X.E ad S) 120 [(0, .ref (ad 0)), (1, .long x1), (3, .int x3), (4, .int x4)] [] := by
  refine at_iload C dX8_digest_120 (j := 3) rfl ?_
  refine at_iconst C dX8_digest_122 (v := 3) rfl ?_
  refine at_icmp_ge C dX8_digest_123 (tgt := 147) (by decide) (fun hc3 => ?_) (fun hc3 => ?_)
  · replace h := h.1 hc3
    refine at_ldc2 C lk_X8_digest_1 dX8_digest_147 ?_
    refine at_lload_n C dX8_digest_150 rfl (j := 1) rfl ?_
    refine at_lmul C dX8_digest_151 ?_
    refine at_aload_n C dX8_digest_152 rfl (j := 0) rfl ?_
    refine at_iload_n C dX8_digest_153 rfl (j := 2) rfl ?_
    refine at_iconst C dX8_digest_154 (v := 0) rfl ?_
    obtain ⟨r4, S4, hF4, h⟩ := h
    refine at_cV1 C 2 hF4 gX8_digest_X8_kinOf rfl (by decide +kernel) ⟨rfl, rfl⟩ rfl rfl rfl 0 mW_c0 rfl dX8_digest_155 ?_
    refine at_i2l C dX8_digest_158 ?_
    refine at_ladd C dX8_digest_159 ?_
    refine at_lstore_n C dX8_digest_160 rfl (by decide) (lv' := [(1, .long ((31 * x1) + r4.toInt64)), (0, .ref (ad 0)), (3, .int x3), (4, .int x4)]) rfl ?_
    refine at_ldc2 C lk_X8_digest_1 dX8_digest_161 ?_
    refine at_lload_n C dX8_digest_164 rfl (j := 0) rfl ?_
    refine at_lmul C dX8_digest_165 ?_
    refine at_aload_n C dX8_digest_166 rfl (j := 1) rfl ?_
    refine at_iload_n C dX8_digest_167 rfl (j := 2) rfl ?_
    refine at_iconst C dX8_digest_168 (v := 1) rfl ?_
    obtain ⟨r5, S5, hF5, h⟩ := h
    refine at_cV1 C 2 hF5 gX8_digest_X8_kinOf rfl (by decide +kernel) ⟨rfl, rfl⟩ rfl rfl rfl 0 mW_c0 rfl dX8_digest_169 ?_
    refine at_i2l C dX8_digest_172 ?_
    refine at_ladd C dX8_digest_173 ?_
    refine at_lstore_n C dX8_digest_174 rfl (by decide) (lv' := [(1, .long ((31 * ((31 * x1) + r4.toInt64)) + r5.toInt64)), (0, .ref (ad 0)), (3, .int x3), (4, .int x4)]) rfl ?_
    refine at_ldc2 C lk_X8_digest_1 dX8_digest_175 ?_
    refine at_lload_n C dX8_digest_178 rfl (j := 0) rfl ?_
    refine at_lmul C dX8_digest_179 ?_
    refine at_aload_n C dX8_digest_180 rfl (j := 1) rfl ?_
    refine at_iload_n C dX8_digest_181 rfl (j := 2) rfl ?_
    obtain ⟨r6, S6, hF6, h⟩ := h
    refine at_cV1 C 1 hF6 gX8_digest_X8_selfOf rfl (by decide +kernel) ⟨rfl, rfl⟩ rfl rfl rfl 0 mW_c0 rfl dX8_digest_182 ?_
    refine at_i2l C dX8_digest_185 ?_
    refine at_ladd C dX8_digest_186 ?_
    refine at_lstore_n C dX8_digest_187 rfl (by decide) (lv' := [(1, .long ((31 * ((31 * ((31 * x1) + r4.toInt64)) + r5.toInt64)) + r6.toInt64)), (0, .ref (ad 0)), (3, .int x3), (4, .int x4)]) rfl ?_
    refine at_ldc2 C lk_X8_digest_1 dX8_digest_188 ?_
    refine at_lload_n C dX8_digest_191 rfl (j := 0) rfl ?_
    refine at_lmul C dX8_digest_192 ?_
    refine at_aload_n C dX8_digest_193 rfl (j := 1) rfl ?_
    refine at_aload_n C dX8_digest_194 rfl (j := 1) rfl ?_
    refine at_get C (K := RX8) (T := TX8) (N := 18) (ci := 7) (v := .ref (ad 7)) iw_X8_digest_X8 0 mW_c0 rfl 9 (by decide) lk_X8_digest_3 rfl dX8_digest_195 ?_
    refine at_iload_n C dX8_digest_198 rfl (j := 2) rfl ?_
    refine at_iald C 7 mW_c7 h.1 dX8_digest_199 ?_
    replace h := h.2
    refine at_iconst C dX8_digest_200 (v := 0) rfl ?_
    obtain ⟨r7, S7, hF7, h⟩ := h
    refine at_cV1 C 2 hF7 gX8_digest_X8_canStand rfl (by decide +kernel) ⟨rfl, rfl⟩ rfl rfl rfl 0 mW_c0 rfl dX8_digest_201 ?_
    have K : At X 5 (mW X.E ad S7) 212 [(0, .ref (ad 0)), (3, .int x3)] [.int (b2i (if r7 then true else false)), .long (31 * ((31 * ((31 * ((31 * x1) + r4.toInt64)) + r5.toInt64)) + r6.toInt64))] := by
      refine at_i2l C dX8_digest_212 ?_
      refine at_ladd C dX8_digest_213 ?_
      refine at_lstore_n C dX8_digest_214 rfl (by decide) (lv' := [(1, .long ((31 * ((31 * ((31 * ((31 * x1) + r4.toInt64)) + r5.toInt64)) + r6.toInt64)) + ((b2i (if r7 then true else false)).toInt64))), (0, .ref (ad 0)), (3, .int x3)]) rfl ?_
      refine at_ldc2 C lk_X8_digest_1 dX8_digest_215 ?_
      refine at_lload_n C dX8_digest_218 rfl (j := 0) rfl ?_
      refine at_lmul C dX8_digest_219 ?_
      refine at_aload_n C dX8_digest_220 rfl (j := 1) rfl ?_
      refine at_iload_n C dX8_digest_221 rfl (j := 2) rfl ?_
      refine at_iconst C dX8_digest_222 (v := 0) rfl ?_
      refine at_iconst C dX8_digest_223 (v := 0) rfl ?_
      refine at_iconst C dX8_digest_224 (v := 1) rfl ?_
      refine at_bipush C dX8_digest_225 (v := 9) rfl ?_
      obtain ⟨r8, S8, hF8, h⟩ := h
      refine at_cV1 C 5 hF8 gX8_digest_X8_throughOf rfl (by decide +kernel) ⟨rfl, rfl⟩ rfl rfl rfl 0 mW_c0 rfl dX8_digest_227 ?_
      refine at_i2l C dX8_digest_230 ?_
      refine at_ladd C dX8_digest_231 ?_
      refine at_lstore_n C dX8_digest_232 rfl (by decide) (lv' := [(1, .long ((31 * ((31 * ((31 * ((31 * ((31 * x1) + r4.toInt64)) + r5.toInt64)) + r6.toInt64)) + ((b2i (if r7 then true else false)).toInt64))) + r8.toInt64)), (0, .ref (ad 0)), (3, .int x3)]) rfl ?_
      refine at_ldc2 C lk_X8_digest_1 dX8_digest_233 ?_
      refine at_lload_n C dX8_digest_236 rfl (j := 0) rfl ?_
      refine at_lmul C dX8_digest_237 ?_
      refine at_aload_n C dX8_digest_238 rfl (j := 1) rfl ?_
      refine at_iload_n C dX8_digest_239 rfl (j := 2) rfl ?_
      refine at_iconst C dX8_digest_240 (v := 0) rfl ?_
      refine at_iconst C dX8_digest_241 (v := 0) rfl ?_
      obtain ⟨r9, S9, hF9, h⟩ := h
      refine at_cV1 C 3 hF9 gX8_digest_X8_reachOf rfl (by decide +kernel) ⟨rfl, rfl⟩ rfl rfl rfl 0 mW_c0 rfl dX8_digest_242 ?_
      refine at_i2l C dX8_digest_245 ?_
      refine at_ladd C dX8_digest_246 ?_
      refine at_lstore_n C dX8_digest_247 rfl (by decide) (lv' := [(1, .long ((31 * ((31 * ((31 * ((31 * ((31 * ((31 * x1) + r4.toInt64)) + r5.toInt64)) + r6.toInt64)) + ((b2i (if r7 then true else false)).toInt64))) + r8.toInt64)) + r9.toInt64)), (0, .ref (ad 0)), (3, .int x3)]) rfl ?_
      refine at_iinc C dX8_digest_248 (j := 2) (v := x3 + 1) rfl rfl (by decide) (lv' := [(3, .int (x3 + 1)), (1, .long ((31 * ((31 * ((31 * ((31 * ((31 * ((31 * x1) + r4.toInt64)) + r5.toInt64)) + r6.toInt64)) + ((b2i (if r7 then true else false)).toInt64))) + r8.toInt64)) + r9.toInt64)), (0, .ref (ad 0))]) rfl ?_
      refine at_goto C dX8_digest_251 (tgt := 57) (by decide) ?_
      refine at_lv [2, 1, 0] rfl ?_
      exact h
    refine at_ifB_eq C dX8_digest_204 (tgt := 211) (by decide) (fun hc4 => ?_) (fun hc4 => ?_)
    · skip
      refine at_iconst C dX8_digest_211 (v := 0) rfl ?_
      refine at_lv [1, 2] rfl ?_
      first | (simp only [if_neg (show ¬ r7 = true by rw [hc4]; decide)] at K; exact K) | exact K
    · skip
      refine at_iconst C dX8_digest_207 (v := 1) rfl ?_
      refine at_goto C dX8_digest_208 (tgt := 212) (by decide) ?_
      refine at_lv [1, 2] rfl ?_
      first | (simp only [if_pos hc4] at K; exact K) | exact K
  · replace h := h.2 hc3
    refine at_ldc2 C lk_X8_digest_1 dX8_digest_126 ?_
    refine at_lload_n C dX8_digest_129 rfl (j := 1) rfl ?_
    refine at_lmul C dX8_digest_130 ?_
    refine at_aload_n C dX8_digest_131 rfl (j := 0) rfl ?_
    refine at_iload_n C dX8_digest_132 rfl (j := 2) rfl ?_
    refine at_iload C dX8_digest_133 (j := 3) rfl ?_
    obtain ⟨r10, S10, hF10, h⟩ := h
    refine at_cV1 C 2 hF10 gX8_digest_X8_formOf rfl (by decide +kernel) ⟨rfl, rfl⟩ rfl rfl rfl 0 mW_c0 rfl dX8_digest_135 ?_
    refine at_i2l C dX8_digest_138 ?_
    refine at_ladd C dX8_digest_139 ?_
    refine at_lstore_n C dX8_digest_140 rfl (by decide) (lv' := [(1, .long ((31 * x1) + r10.toInt64)), (0, .ref (ad 0)), (3, .int x3), (4, .int x4)]) rfl ?_
    refine at_iinc C dX8_digest_141 (j := 3) (v := x4 + 1) rfl rfl (by decide) (lv' := [(4, .int (x4 + 1)), (1, .long ((31 * x1) + r10.toInt64)), (0, .ref (ad 0)), (3, .int x3)]) rfl ?_
    refine at_goto C dX8_digest_144 (tgt := 120) (by decide) ?_
    refine at_lv [2, 1, 3, 0] rfl ?_
    exact h
set_option maxRecDepth 100000 in
theorem r_X8_digest_256 {X : Bn} (C : Cx X cX8_digest 5 RX8 wsX8_digest 6 146) (ad : Nat → Nat) (S : MS) (x1 : Int64) (x3 : Int32) (h : ((2 ≤ x3) → (At X 5 (mW X.E ad S) 282 [(0, .ref (ad 0)), (1, .long x1), (3, .int 0)] [])) ∧ (¬ 2 ≤ x3 → (∃ (r11 : Int32) (S11 : MS), (Fn X.l X.D X.E X.a1 X.a2 yX8_fitsOf wsX8_fitsOf 4 91 [.ref (ad 0), .int x3] (mW X.E ad S) (some (.int r11)) (mW X.E ad S11)) ∧ (At X 5 (mW X.E ad S11) 256 [(0, .ref (ad 0)), (1, .long ((31 * x1) + r11.toInt64)), (3, .int (x3 + 1))] [])))) : At X 5 (mW X.E ad S) 256 [(0, .ref (ad 0)), (1, .long x1), (3, .int x3)] [] := by
  refine at_iload_n C dX8_digest_256 rfl (j := 2) rfl ?_
  refine at_iconst C dX8_digest_257 (v := 2) rfl ?_
  refine at_icmp_ge C dX8_digest_258 (tgt := 280) (by decide) (fun hc4 => ?_) (fun hc4 => ?_)
  · replace h := h.1 hc4
    refine at_iconst C dX8_digest_280 (v := 0) rfl ?_
    refine at_istore_n C dX8_digest_281 rfl (by decide) (lv' := [(3, .int 0), (0, .ref (ad 0)), (1, .long x1)]) rfl ?_
    refine at_lv [1, 2, 0] rfl ?_
    exact h
  · replace h := h.2 hc4
    refine at_ldc2 C lk_X8_digest_1 dX8_digest_261 ?_
    refine at_lload_n C dX8_digest_264 rfl (j := 1) rfl ?_
    refine at_lmul C dX8_digest_265 ?_
    refine at_aload_n C dX8_digest_266 rfl (j := 0) rfl ?_
    refine at_iload_n C dX8_digest_267 rfl (j := 2) rfl ?_
    obtain ⟨r11, S11, hF11, h⟩ := h
    refine at_cV1 C 1 hF11 gX8_digest_X8_fitsOf rfl (by decide +kernel) ⟨rfl, rfl⟩ rfl rfl rfl 0 mW_c0 rfl dX8_digest_268 ?_
    refine at_i2l C dX8_digest_271 ?_
    refine at_ladd C dX8_digest_272 ?_
    refine at_lstore_n C dX8_digest_273 rfl (by decide) (lv' := [(1, .long ((31 * x1) + r11.toInt64)), (0, .ref (ad 0)), (3, .int x3)]) rfl ?_
    refine at_iinc C dX8_digest_274 (j := 2) (v := x3 + 1) rfl rfl (by decide) (lv' := [(3, .int (x3 + 1)), (1, .long ((31 * x1) + r11.toInt64)), (0, .ref (ad 0))]) rfl ?_
    refine at_goto C dX8_digest_277 (tgt := 256) (by decide) ?_
    refine at_lv [2, 1, 0] rfl ?_
    exact h
set_option maxRecDepth 100000 in
theorem r_X8_digest_282 {X : Bn} (C : Cx X cX8_digest 5 RX8 wsX8_digest 6 146) (ad : Nat → Nat) (S : MS) (x1 : Int64) (x3 : Int32) (h : ((2 ≤ x3) → (∃ (r12 : Int32) (S12 : MS), (Fn X.l X.D X.E X.a1 X.a2 yX8_view wsX8_view 4 94 [.ref (ad 0), .int 0] (mW X.E ad S) (some (.int r12)) (mW X.E ad S12)) ∧ (∃ (r13 : Int32) (S13 : MS), (Fn X.l X.D X.E X.a1 X.a2 yX8_view wsX8_view 4 94 [.ref (ad 0), .int 9] (mW X.E ad S12) (some (.int r13)) (mW X.E ad S13)) ∧ (∃ (r14 : Int32) (S14 : MS), (Fn X.l X.D X.E X.a1 X.a2 yX8_sees wsX8_sees 4 90 [.ref (ad 0), .int 0, .int 2] (mW X.E ad S13) (some (.int r14)) (mW X.E ad S14)) ∧ (At X 5 (mW X.E ad S14) 349 [(0, .ref (ad 0)), (1, .long ((31 * ((31 * ((31 * x1) + r12.toInt64)) + r13.toInt64)) + r14.toInt64)), (3, .int 0)] []))))) ∧ (¬ 2 ≤ x3 → (∃ (r15 : Int32) (S15 : MS), (Fn X.l X.D X.E X.a1 X.a2 yX8_lookOf wsX8_lookOf 5 116 [.ref (ad 0), .int x3] (mW X.E ad S) (some (.int r15)) (mW X.E ad S15)) ∧ (At X 5 (mW X.E ad S15) 282 [(0, .ref (ad 0)), (1, .long ((31 * x1) + r15.toInt64)), (3, .int (x3 + 1))] [])))) : At X 5 (mW X.E ad S) 282 [(0, .ref (ad 0)), (1, .long x1), (3, .int x3)] [] := by
  refine at_iload_n C dX8_digest_282 rfl (j := 2) rfl ?_
  refine at_iconst C dX8_digest_283 (v := 2) rfl ?_
  refine at_icmp_ge C dX8_digest_284 (tgt := 306) (by decide) (fun hc5 => ?_) (fun hc5 => ?_)
  · replace h := h.1 hc5
    refine at_ldc2 C lk_X8_digest_1 dX8_digest_306 ?_
    refine at_lload_n C dX8_digest_309 rfl (j := 1) rfl ?_
    refine at_lmul C dX8_digest_310 ?_
    refine at_aload_n C dX8_digest_311 rfl (j := 0) rfl ?_
    refine at_iconst C dX8_digest_312 (v := 0) rfl ?_
    obtain ⟨r12, S12, hF12, h⟩ := h
    refine at_cV1 C 1 hF12 gX8_digest_X8_view rfl (by decide +kernel) ⟨rfl, rfl⟩ rfl rfl rfl 0 mW_c0 rfl dX8_digest_313 ?_
    refine at_i2l C dX8_digest_316 ?_
    refine at_ladd C dX8_digest_317 ?_
    refine at_lstore_n C dX8_digest_318 rfl (by decide) (lv' := [(1, .long ((31 * x1) + r12.toInt64)), (0, .ref (ad 0)), (3, .int x3)]) rfl ?_
    refine at_ldc2 C lk_X8_digest_1 dX8_digest_319 ?_
    refine at_lload_n C dX8_digest_322 rfl (j := 0) rfl ?_
    refine at_lmul C dX8_digest_323 ?_
    refine at_aload_n C dX8_digest_324 rfl (j := 1) rfl ?_
    refine at_bipush C dX8_digest_325 (v := 9) rfl ?_
    obtain ⟨r13, S13, hF13, h⟩ := h
    refine at_cV1 C 1 hF13 gX8_digest_X8_view rfl (by decide +kernel) ⟨rfl, rfl⟩ rfl rfl rfl 0 mW_c0 rfl dX8_digest_327 ?_
    refine at_i2l C dX8_digest_330 ?_
    refine at_ladd C dX8_digest_331 ?_
    refine at_lstore_n C dX8_digest_332 rfl (by decide) (lv' := [(1, .long ((31 * ((31 * x1) + r12.toInt64)) + r13.toInt64)), (0, .ref (ad 0)), (3, .int x3)]) rfl ?_
    refine at_ldc2 C lk_X8_digest_1 dX8_digest_333 ?_
    refine at_lload_n C dX8_digest_336 rfl (j := 0) rfl ?_
    refine at_lmul C dX8_digest_337 ?_
    refine at_aload_n C dX8_digest_338 rfl (j := 1) rfl ?_
    refine at_iconst C dX8_digest_339 (v := 0) rfl ?_
    refine at_iconst C dX8_digest_340 (v := 2) rfl ?_
    obtain ⟨r14, S14, hF14, h⟩ := h
    refine at_cV1 C 2 hF14 gX8_digest_X8_sees rfl (by decide +kernel) ⟨rfl, rfl⟩ rfl rfl rfl 0 mW_c0 rfl dX8_digest_341 ?_
    refine at_i2l C dX8_digest_344 ?_
    refine at_ladd C dX8_digest_345 ?_
    refine at_lstore_n C dX8_digest_346 rfl (by decide) (lv' := [(1, .long ((31 * ((31 * ((31 * x1) + r12.toInt64)) + r13.toInt64)) + r14.toInt64)), (0, .ref (ad 0)), (3, .int x3)]) rfl ?_
    refine at_iconst C dX8_digest_347 (v := 0) rfl ?_
    refine at_istore_n C dX8_digest_348 rfl (by decide) (lv' := [(3, .int 0), (1, .long ((31 * ((31 * ((31 * x1) + r12.toInt64)) + r13.toInt64)) + r14.toInt64)), (0, .ref (ad 0))]) rfl ?_
    refine at_lv [2, 1, 0] rfl ?_
    exact h
  · replace h := h.2 hc5
    refine at_ldc2 C lk_X8_digest_1 dX8_digest_287 ?_
    refine at_lload_n C dX8_digest_290 rfl (j := 1) rfl ?_
    refine at_lmul C dX8_digest_291 ?_
    refine at_aload_n C dX8_digest_292 rfl (j := 0) rfl ?_
    refine at_iload_n C dX8_digest_293 rfl (j := 2) rfl ?_
    obtain ⟨r15, S15, hF15, h⟩ := h
    refine at_cV1 C 1 hF15 gX8_digest_X8_lookOf rfl (by decide +kernel) ⟨rfl, rfl⟩ rfl rfl rfl 0 mW_c0 rfl dX8_digest_294 ?_
    refine at_i2l C dX8_digest_297 ?_
    refine at_ladd C dX8_digest_298 ?_
    refine at_lstore_n C dX8_digest_299 rfl (by decide) (lv' := [(1, .long ((31 * x1) + r15.toInt64)), (0, .ref (ad 0)), (3, .int x3)]) rfl ?_
    refine at_iinc C dX8_digest_300 (j := 2) (v := x3 + 1) rfl rfl (by decide) (lv' := [(3, .int (x3 + 1)), (1, .long ((31 * x1) + r15.toInt64)), (0, .ref (ad 0))]) rfl ?_
    refine at_goto C dX8_digest_303 (tgt := 282) (by decide) ?_
    refine at_lv [2, 1, 0] rfl ?_
    exact h
set_option maxRecDepth 100000 in
theorem r_X8_digest_349 {X : Bn} (C : Cx X cX8_digest 5 RX8 wsX8_digest 6 146) (ad : Nat → Nat) (S : MS) (x1 : Int64) (x3 : Int32) (h : ((3 ≤ x3) → (At X 5 (mW X.E ad S) 375 [(0, .ref (ad 0)), (1, .long x1), (3, .int 0)] [])) ∧ (¬ 3 ≤ x3 → (∃ (r16 : Int32) (S16 : MS), (Fn X.l X.D X.E X.a1 X.a2 yX8_watchersOf wsX8_watchersOf 3 75 [.ref (ad 0), .int x3] (mW X.E ad S) (some (.int r16)) (mW X.E ad S16)) ∧ (At X 5 (mW X.E ad S16) 349 [(0, .ref (ad 0)), (1, .long ((31 * x1) + r16.toInt64)), (3, .int (x3 + 1))] [])))) : At X 5 (mW X.E ad S) 349 [(0, .ref (ad 0)), (1, .long x1), (3, .int x3)] [] := by
  refine at_iload_n C dX8_digest_349 rfl (j := 2) rfl ?_
  refine at_iconst C dX8_digest_350 (v := 3) rfl ?_
  refine at_icmp_ge C dX8_digest_351 (tgt := 373) (by decide) (fun hc6 => ?_) (fun hc6 => ?_)
  · replace h := h.1 hc6
    refine at_iconst C dX8_digest_373 (v := 0) rfl ?_
    refine at_istore_n C dX8_digest_374 rfl (by decide) (lv' := [(3, .int 0), (0, .ref (ad 0)), (1, .long x1)]) rfl ?_
    refine at_lv [1, 2, 0] rfl ?_
    exact h
  · replace h := h.2 hc6
    refine at_ldc2 C lk_X8_digest_1 dX8_digest_354 ?_
    refine at_lload_n C dX8_digest_357 rfl (j := 1) rfl ?_
    refine at_lmul C dX8_digest_358 ?_
    refine at_aload_n C dX8_digest_359 rfl (j := 0) rfl ?_
    refine at_iload_n C dX8_digest_360 rfl (j := 2) rfl ?_
    obtain ⟨r16, S16, hF16, h⟩ := h
    refine at_cV1 C 1 hF16 gX8_digest_X8_watchersOf rfl (by decide +kernel) ⟨rfl, rfl⟩ rfl rfl rfl 0 mW_c0 rfl dX8_digest_361 ?_
    refine at_i2l C dX8_digest_364 ?_
    refine at_ladd C dX8_digest_365 ?_
    refine at_lstore_n C dX8_digest_366 rfl (by decide) (lv' := [(1, .long ((31 * x1) + r16.toInt64)), (0, .ref (ad 0)), (3, .int x3)]) rfl ?_
    refine at_iinc C dX8_digest_367 (j := 2) (v := x3 + 1) rfl rfl (by decide) (lv' := [(3, .int (x3 + 1)), (1, .long ((31 * x1) + r16.toInt64)), (0, .ref (ad 0))]) rfl ?_
    refine at_goto C dX8_digest_370 (tgt := 349) (by decide) ?_
    refine at_lv [2, 1, 0] rfl ?_
    exact h
set_option maxRecDepth 100000 in
theorem r_X8_digest_375 {X : Bn} (C : Cx X cX8_digest 5 RX8 wsX8_digest 6 146) (ad : Nat → Nat) (S : MS) (x1 : Int64) (x3 : Int32) (h : ((2 ≤ x3) → (At X 5 (mW X.E ad S) 405 [(0, .ref (ad 0)), (1, .long x1), (3, .int 0)] [])) ∧ (¬ 2 ≤ x3 → (∃ (r17 : Int32) (S17 : MS), (Fn X.l X.D X.E X.a1 X.a2 yX8_echoesOf wsX8_echoesOf 4 96 [.ref (ad 0), .int 1, .int (-1), .int (-1), .int (-1), .int x3] (mW X.E ad S) (some (.int r17)) (mW X.E ad S17)) ∧ (At X 5 (mW X.E ad S17) 375 [(0, .ref (ad 0)), (1, .long ((31 * x1) + r17.toInt64)), (3, .int (x3 + 1))] [])))) : At X 5 (mW X.E ad S) 375 [(0, .ref (ad 0)), (1, .long x1), (3, .int x3)] [] := by
  refine at_iload_n C dX8_digest_375 rfl (j := 2) rfl ?_
  refine at_iconst C dX8_digest_376 (v := 2) rfl ?_
  refine at_icmp_ge C dX8_digest_377 (tgt := 403) (by decide) (fun hc7 => ?_) (fun hc7 => ?_)
  · replace h := h.1 hc7
    refine at_iconst C dX8_digest_403 (v := 0) rfl ?_
    refine at_istore_n C dX8_digest_404 rfl (by decide) (lv' := [(3, .int 0), (0, .ref (ad 0)), (1, .long x1)]) rfl ?_
    refine at_lv [1, 2, 0] rfl ?_
    exact h
  · replace h := h.2 hc7
    refine at_ldc2 C lk_X8_digest_1 dX8_digest_380 ?_
    refine at_lload_n C dX8_digest_383 rfl (j := 1) rfl ?_
    refine at_lmul C dX8_digest_384 ?_
    refine at_aload_n C dX8_digest_385 rfl (j := 0) rfl ?_
    refine at_iconst C dX8_digest_386 (v := 1) rfl ?_
    refine at_iconst C dX8_digest_387 (v := (-1)) rfl ?_
    refine at_iconst C dX8_digest_388 (v := (-1)) rfl ?_
    refine at_iconst C dX8_digest_389 (v := (-1)) rfl ?_
    refine at_iload_n C dX8_digest_390 rfl (j := 2) rfl ?_
    obtain ⟨r17, S17, hF17, h⟩ := h
    refine at_cV1 C 5 hF17 gX8_digest_X8_echoesOf rfl (by decide +kernel) ⟨rfl, rfl⟩ rfl rfl rfl 0 mW_c0 rfl dX8_digest_391 ?_
    refine at_i2l C dX8_digest_394 ?_
    refine at_ladd C dX8_digest_395 ?_
    refine at_lstore_n C dX8_digest_396 rfl (by decide) (lv' := [(1, .long ((31 * x1) + r17.toInt64)), (0, .ref (ad 0)), (3, .int x3)]) rfl ?_
    refine at_iinc C dX8_digest_397 (j := 2) (v := x3 + 1) rfl rfl (by decide) (lv' := [(3, .int (x3 + 1)), (1, .long ((31 * x1) + r17.toInt64)), (0, .ref (ad 0))]) rfl ?_
    refine at_goto C dX8_digest_400 (tgt := 375) (by decide) ?_
    refine at_lv [2, 1, 0] rfl ?_
    exact h
set_option maxRecDepth 100000 in
theorem r_X8_digest_405 {X : Bn} (C : Cx X cX8_digest 5 RX8 wsX8_digest 6 146) (ad : Nat → Nat) (S : MS) (x1 : Int64) (x3 : Int32) (h : ((2 ≤ x3) → (∃ (r18 : Int32) (S18 : MS), (Fn X.l X.D X.E X.a1 X.a2 yX8_meet wsX8_meet 4 99 [.ref (ad 0), .int 0, .int 0, .int 0, .int 1, .int 0, .int 2] (mW X.E ad S) (some (.int r18)) (mW X.E ad S18)) ∧ (Ends X (some .long) (some (.long ((31 * x1) + r18.toInt64))) (mW X.E ad S18)))) ∧ (¬ 2 ≤ x3 → (∃ (r19 : Int64) (S19 : MS), (Fn X.l X.D X.E X.a1 X.a2 yX8_fog wsX8_fog 4 105 [.ref (ad 0), .int 0, .int 2, .int 4, .int x3] (mW X.E ad S) (some (.long r19)) (mW X.E ad S19)) ∧ (At X 5 (mW X.E ad S19) 405 [(0, .ref (ad 0)), (1, .long ((31 * x1) + r19)), (3, .int (x3 + 1))] [])))) : At X 5 (mW X.E ad S) 405 [(0, .ref (ad 0)), (1, .long x1), (3, .int x3)] [] := by
  refine at_iload_n C dX8_digest_405 rfl (j := 2) rfl ?_
  refine at_iconst C dX8_digest_406 (v := 2) rfl ?_
  refine at_icmp_ge C dX8_digest_407 (tgt := 431) (by decide) (fun hc8 => ?_) (fun hc8 => ?_)
  · replace h := h.1 hc8
    refine at_ldc2 C lk_X8_digest_1 dX8_digest_431 ?_
    refine at_lload_n C dX8_digest_434 rfl (j := 1) rfl ?_
    refine at_lmul C dX8_digest_435 ?_
    refine at_aload_n C dX8_digest_436 rfl (j := 0) rfl ?_
    refine at_iconst C dX8_digest_437 (v := 0) rfl ?_
    refine at_iconst C dX8_digest_438 (v := 0) rfl ?_
    refine at_iconst C dX8_digest_439 (v := 0) rfl ?_
    refine at_iconst C dX8_digest_440 (v := 1) rfl ?_
    refine at_iconst C dX8_digest_441 (v := 0) rfl ?_
    refine at_iconst C dX8_digest_442 (v := 2) rfl ?_
    obtain ⟨r18, S18, hF18, h⟩ := h
    refine at_cV1 C 6 hF18 gX8_digest_X8_meet rfl (by decide +kernel) ⟨rfl, rfl⟩ rfl rfl rfl 0 mW_c0 rfl dX8_digest_443 ?_
    refine at_i2l C dX8_digest_446 ?_
    refine at_ladd C dX8_digest_447 ?_
    exact at_lret C dX8_digest_448 h
  · replace h := h.2 hc8
    refine at_ldc2 C lk_X8_digest_1 dX8_digest_410 ?_
    refine at_lload_n C dX8_digest_413 rfl (j := 1) rfl ?_
    refine at_lmul C dX8_digest_414 ?_
    refine at_aload_n C dX8_digest_415 rfl (j := 0) rfl ?_
    refine at_iconst C dX8_digest_416 (v := 0) rfl ?_
    refine at_iconst C dX8_digest_417 (v := 2) rfl ?_
    refine at_iconst C dX8_digest_418 (v := 4) rfl ?_
    refine at_iload_n C dX8_digest_419 rfl (j := 2) rfl ?_
    obtain ⟨r19, S19, hF19, h⟩ := h
    refine at_cV1 C 4 hF19 gX8_digest_X8_fog rfl (by decide +kernel) ⟨rfl, rfl⟩ rfl rfl rfl 0 mW_c0 rfl dX8_digest_420 ?_
    refine at_ladd C dX8_digest_423 ?_
    refine at_lstore_n C dX8_digest_424 rfl (by decide) (lv' := [(1, .long ((31 * x1) + r19)), (0, .ref (ad 0)), (3, .int x3)]) rfl ?_
    refine at_iinc C dX8_digest_425 (j := 2) (v := x3 + 1) rfl rfl (by decide) (lv' := [(3, .int (x3 + 1)), (1, .long ((31 * x1) + r19)), (0, .ref (ad 0))]) rfl ?_
    refine at_goto C dX8_digest_428 (tgt := 405) (by decide) ?_
    refine at_lv [2, 1, 0] rfl ?_
    exact h
end
