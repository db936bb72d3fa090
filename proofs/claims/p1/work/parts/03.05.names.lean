theorem dX11_ramp_22 : decode cX11_ramp 22 = .ok (.aload_n 0, 1) := by decide +kernel
theorem dX11_ramp_23 : decode cX11_ramp 23 = .ok (.getfield 10, 3) := by decide +kernel
theorem dX11_ramp_26 : decode cX11_ramp 26 = .ok (.iload_n 1, 1) := by decide +kernel
theorem dX11_ramp_27 : decode cX11_ramp 27 = .ok (.aaload, 1) := by decide +kernel
theorem dX11_ramp_28 : decode cX11_ramp 28 = .ok (.iload_n 2, 1) := by decide +kernel
theorem dX11_ramp_29 : decode cX11_ramp 29 = .ok (.putfield 150, 3) := by decide +kernel
theorem dX11_ramp_32 : decode cX11_ramp 32 = .ok (.iconst 1, 1) := by decide +kernel
theorem dX11_ramp_33 : decode cX11_ramp 33 = .ok (.ireturn, 1) := by decide +kernel
set_option maxRecDepth 20000 in
theorem ggX11_ticks_X11_isWithin : GoodIn wsX11_ticks wsX11_isWithin := goodIn_r _ [5] (by decide +kernel) (by decide +kernel)
set_option maxRecDepth 20000 in
theorem gX11_ticks_X11_isWithin : GoodIn wsX11_ticks (va_wsS RX11 91 yX11_isWithin wsX11_isWithin) := goodIn_app (goodIn_of _ (by decide +kernel)) ggX11_ticks_X11_isWithin
set_option maxRecDepth 20000 in
theorem ggX11_ticks_X11_letTickGo : GoodIn wsX11_ticks wsX11_letTickGo := goodIn_r _ [9, 10, 11, 12, 13, 1, 14, 15, 16, 17, 18, 19, 4, 20, 21, 22, 23, 24, 25, 26, 27, 28, 29, 30, 31, 32, 33, 34, 35, 36, 37, 38, 39, 40, 41, 42, 43, 44, 45, 46, 2, 3, 5, 47, 48, 49, 50, 51, 52, 53, 54, 55, 56, 57, 58, 59, 60, 61, 62, 63, 64, 65, 66, 67, 68, 69, 70, 71, 72, 73, 74, 75, 76, 77, 78, 79, 80, 81, 82, 83, 84, 85, 86, 87, 88, 89, 90, 91, 92, 93, 94, 95, 96, 97, 98, 99, 100, 101, 102, 103, 104, 105, 106, 107, 108, 109, 110, 111, 112, 113, 114, 115, 116, 117, 118, 119, 120, 121, 122, 123] (by decide +kernel) (by decide +kernel)
set_option maxRecDepth 20000 in
theorem gX11_ticks_X11_letTickGo : GoodIn wsX11_ticks (wsV RX11 153 RX11 yX11_letTickGo wsX11_letTickGo) := goodIn_app (goodIn_of _ (by decide +kernel)) ggX11_ticks_X11_letTickGo
theorem dX11_ticks_0 : decode cX11_ticks 0 = .ok (.iload_n 1, 1) := by decide +kernel
theorem dX11_ticks_1 : decode cX11_ticks 1 = .ok (.iconst 1, 1) := by decide +kernel
theorem dX11_ticks_2 : decode cX11_ticks 2 = .ok (.sipush 200, 3) := by decide +kernel
theorem dX11_ticks_5 : decode cX11_ticks 5 = .ok (.invokestatic 91, 3) := by decide +kernel
theorem dX11_ticks_8 : decode cX11_ticks 8 = .ok (.ifCond .ne 5, 3) := by decide +kernel
theorem dX11_ticks_11 : decode cX11_ticks 11 = .ok (.iconst (-1), 1) := by decide +kernel
theorem dX11_ticks_12 : decode cX11_ticks 12 = .ok (.ireturn, 1) := by decide +kernel
theorem dX11_ticks_13 : decode cX11_ticks 13 = .ok (.iconst 0, 1) := by decide +kernel
theorem dX11_ticks_14 : decode cX11_ticks 14 = .ok (.istore_n 2, 1) := by decide +kernel
theorem dX11_ticks_15 : decode cX11_ticks 15 = .ok (.iload_n 2, 1) := by decide +kernel
theorem dX11_ticks_16 : decode cX11_ticks 16 = .ok (.iload_n 1, 1) := by decide +kernel
theorem dX11_ticks_17 : decode cX11_ticks 17 = .ok (.if_icmp .ge 13, 3) := by decide +kernel
theorem dX11_ticks_20 : decode cX11_ticks 20 = .ok (.aload_n 0, 1) := by decide +kernel
theorem dX11_ticks_21 : decode cX11_ticks 21 = .ok (.invokevirtual 153, 3) := by decide +kernel
theorem dX11_ticks_24 : decode cX11_ticks 24 = .ok (.iinc 2 1, 3) := by decide +kernel
theorem dX11_ticks_27 : decode cX11_ticks 27 = .ok (.goto (-12), 3) := by decide +kernel
theorem dX11_ticks_30 : decode cX11_ticks 30 = .ok (.aload_n 0, 1) := by decide +kernel
theorem dX11_ticks_31 : decode cX11_ticks 31 = .ok (.getfield 67, 3) := by decide +kernel
theorem dX11_ticks_34 : decode cX11_ticks 34 = .ok (.ireturn, 1) := by decide +kernel
set_option maxRecDepth 20000 in
theorem ggX11_feed_X9_addBytesOf : GoodIn wsX11_feed wsX9_addBytesOf := goodIn_r _ [8, 9, 10, 35, 36] (by decide +kernel) (by decide +kernel)
set_option maxRecDepth 20000 in
theorem gX11_feed_X9_addBytesOf : GoodIn wsX11_feed (wsV RX11 163 RX9 yX9_addBytesOf wsX9_addBytesOf) := goodIn_app (goodIn_of _ (by decide +kernel)) ggX11_feed_X9_addBytesOf
theorem dX11_feed_0 : decode cX11_feed 0 = .ok (.aload_n 0, 1) := by decide +kernel
theorem dX11_feed_1 : decode cX11_feed 1 = .ok (.getfield 32, 3) := by decide +kernel
theorem dX11_feed_4 : decode cX11_feed 4 = .ok (.getfield 156, 3) := by decide +kernel
theorem dX11_feed_7 : decode cX11_feed 7 = .ok (.astore 6, 2) := by decide +kernel
theorem dX11_feed_9 : decode cX11_feed 9 = .ok (.aload 6, 2) := by decide +kernel
theorem dX11_feed_11 : decode cX11_feed 11 = .ok (.getfield 160, 3) := by decide +kernel
theorem dX11_feed_14 : decode cX11_feed 14 = .ok (.bipush 20, 2) := by decide +kernel
theorem dX11_feed_16 : decode cX11_feed 16 = .ok (.iadd, 1) := by decide +kernel
theorem dX11_feed_17 : decode cX11_feed 17 = .ok (.sipush 300, 3) := by decide +kernel
theorem dX11_feed_20 : decode cX11_feed 20 = .ok (.if_icmp .le 5, 3) := by decide +kernel
theorem dX11_feed_25 : decode cX11_feed 25 = .ok (.aload 6, 2) := by decide +kernel
theorem dX11_feed_27 : decode cX11_feed 27 = .ok (.iload_n 1, 1) := by decide +kernel
theorem dX11_feed_28 : decode cX11_feed 28 = .ok (.invokevirtual 163, 3) := by decide +kernel
theorem dX11_feed_31 : decode cX11_feed 31 = .ok (.aload 6, 2) := by decide +kernel
theorem dX11_feed_33 : decode cX11_feed 33 = .ok (.iload_n 2, 1) := by decide +kernel
theorem dX11_feed_34 : decode cX11_feed 34 = .ok (.invokevirtual 163, 3) := by decide +kernel
theorem dX11_feed_37 : decode cX11_feed 37 = .ok (.aload 6, 2) := by decide +kernel
theorem dX11_feed_39 : decode cX11_feed 39 = .ok (.iload_n 3, 1) := by decide +kernel
theorem dX11_feed_40 : decode cX11_feed 40 = .ok (.invokevirtual 163, 3) := by decide +kernel
theorem dX11_feed_43 : decode cX11_feed 43 = .ok (.aload 6, 2) := by decide +kernel
theorem dX11_feed_45 : decode cX11_feed 45 = .ok (.iload 4, 2) := by decide +kernel
theorem dX11_feed_47 : decode cX11_feed 47 = .ok (.invokevirtual 163, 3) := by decide +kernel
theorem dX11_feed_50 : decode cX11_feed 50 = .ok (.aload 6, 2) := by decide +kernel
theorem dX11_feed_52 : decode cX11_feed 52 = .ok (.iload 5, 2) := by decide +kernel
theorem dX11_feed_54 : decode cX11_feed 54 = .ok (.invokevirtual 163, 3) := by decide +kernel
theorem dX11_feed_57 : decode cX11_feed 57 = .ok (.aload 6, 2) := by decide +kernel
theorem dX11_feed_59 : decode cX11_feed 59 = .ok (.getfield 160, 3) := by decide +kernel
theorem dX11_feed_62 : decode cX11_feed 62 = .ok (.ireturn, 1) := by decide +kernel
set_option maxRecDepth 20000 in
theorem ggX11_end_X11_isWithin : GoodIn wsX11_end wsX11_isWithin := goodIn_r _ [7] (by decide +kernel) (by decide +kernel)
set_option maxRecDepth 20000 in
theorem gX11_end_X11_isWithin : GoodIn wsX11_end (va_wsS RX11 91 yX11_isWithin wsX11_isWithin) := goodIn_app (goodIn_of _ (by decide +kernel)) ggX11_end_X11_isWithin
theorem dX11_end_0 : decode cX11_end 0 = .ok (.iload_n 1, 1) := by decide +kernel
theorem dX11_end_1 : decode cX11_end 1 = .ok (.iconst 0, 1) := by decide +kernel
theorem dX11_end_2 : decode cX11_end 2 = .ok (.aload_n 0, 1) := by decide +kernel
theorem dX11_end_3 : decode cX11_end 3 = .ok (.getfield 32, 3) := by decide +kernel
theorem dX11_end_6 : decode cX11_end 6 = .ok (.getfield 156, 3) := by decide +kernel
theorem dX11_end_9 : decode cX11_end 9 = .ok (.getfield 160, 3) := by decide +kernel
theorem dX11_end_12 : decode cX11_end 12 = .ok (.invokestatic 91, 3) := by decide +kernel
theorem dX11_end_15 : decode cX11_end 15 = .ok (.ifCond .ne 5, 3) := by decide +kernel
theorem dX11_end_18 : decode cX11_end 18 = .ok (.iconst (-1), 1) := by decide +kernel
theorem dX11_end_19 : decode cX11_end 19 = .ok (.ireturn, 1) := by decide +kernel
theorem dX11_end_20 : decode cX11_end 20 = .ok (.aload_n 0, 1) := by decide +kernel
theorem dX11_end_21 : decode cX11_end 21 = .ok (.getfield 32, 3) := by decide +kernel
theorem dX11_end_24 : decode cX11_end 24 = .ok (.getfield 156, 3) := by decide +kernel
theorem dX11_end_27 : decode cX11_end 27 = .ok (.iload_n 1, 1) := by decide +kernel
theorem dX11_end_28 : decode cX11_end 28 = .ok (.putfield 160, 3) := by decide +kernel
theorem dX11_end_31 : decode cX11_end 31 = .ok (.iload_n 1, 1) := by decide +kernel
theorem dX11_end_32 : decode cX11_end 32 = .ok (.ireturn, 1) := by decide +kernel
set_option maxRecDepth 20000 in
theorem ggX11_agree_X11_canBeTold : GoodIn wsX11_agree wsX11_canBeTold := goodIn_r _ [12, 13, 14, 15, 11, 16, 159, 160, 161, 162, 163, 164, 165, 166, 167, 168, 169, 170, 171, 172, 173, 174, 175, 176] (by decide +kernel) (by decide +kernel)
set_option maxRecDepth 20000 in
theorem gX11_agree_X11_canBeTold : GoodIn wsX11_agree (wsV RX11 138 RX11 yX11_canBeTold wsX11_canBeTold) := goodIn_app (goodIn_of _ (by decide +kernel)) ggX11_agree_X11_canBeTold
set_option maxRecDepth 20000 in
theorem ggX11_agree_X1_read : GoodIn wsX11_agree wsX1_read := goodIn_r _ [21, 22, 23, 24, 25, 26, 27, 28, 29, 30, 31, 32, 33, 34, 35, 36, 37, 38, 39, 40, 20, 41, 42, 43, 44, 45, 46, 47, 48, 49, 50, 51, 52, 53, 54, 55, 56, 57, 58, 59, 60, 61, 62, 63, 64, 65, 66, 67, 68, 69, 70, 71, 72, 73, 74, 75, 76, 77, 78, 79, 80, 81, 82, 83, 84, 85, 86, 87, 88, 89, 90, 91, 92, 93, 94, 95, 96, 97, 98, 99, 100, 101, 102, 103, 104, 105, 106, 107, 108, 109, 110, 111, 112, 113, 114, 115, 116, 117, 118, 119, 120, 121, 122, 123, 124, 125, 126, 127, 128, 129, 130, 131, 132, 133, 134, 135, 136, 137, 138, 139, 140, 141, 142, 143, 144, 145, 146, 147, 148, 149, 150, 181, 182, 183, 184, 185, 186, 189, 190, 191, 187, 188] (by decide +kernel) (by decide +kernel)
set_option maxRecDepth 20000 in
theorem gX11_agree_X1_read : GoodIn wsX11_agree (wsV RX11 166 RX1 yX1_read wsX1_read) := goodIn_app (goodIn_of _ (by decide +kernel)) ggX11_agree_X1_read
set_option maxRecDepth 20000 in
theorem ggX11_agree_X6_tell : GoodIn wsX11_agree wsX6_tell := goodIn_r _ [155, 156, 157, 158, 177, 178, 179, 180] (by decide +kernel) (by decide +kernel)
set_option maxRecDepth 20000 in
theorem gX11_agree_X6_tell : GoodIn wsX11_agree (wsV RX11 147 RX6 yX6_tell wsX6_tell) := goodIn_app (goodIn_of _ (by decide +kernel)) ggX11_agree_X6_tell
theorem dX11_agree_0 : decode cX11_agree 0 = .ok (.aload_n 0, 1) := by decide +kernel
theorem dX11_agree_1 : decode cX11_agree 1 = .ok (.getfield 47, 3) := by decide +kernel
theorem dX11_agree_4 : decode cX11_agree 4 = .ok (.getfield 144, 3) := by decide +kernel
theorem dX11_agree_7 : decode cX11_agree 7 = .ok (.istore_n 2, 1) := by decide +kernel
theorem dX11_agree_8 : decode cX11_agree 8 = .ok (.aload_n 0, 1) := by decide +kernel
theorem dX11_agree_9 : decode cX11_agree 9 = .ok (.iload_n 1, 1) := by decide +kernel
theorem dX11_agree_10 : decode cX11_agree 10 = .ok (.invokevirtual 138, 3) := by decide +kernel
theorem dX11_agree_13 : decode cX11_agree 13 = .ok (.ifCond .eq 9, 3) := by decide +kernel
theorem dX11_agree_16 : decode cX11_agree 16 = .ok (.iload_n 2, 1) := by decide +kernel
theorem dX11_agree_17 : decode cX11_agree 17 = .ok (.bipush 20, 2) := by decide +kernel
theorem dX11_agree_19 : decode cX11_agree 19 = .ok (.if_icmp .lt 5, 3) := by decide +kernel
theorem dX11_agree_22 : decode cX11_agree 22 = .ok (.iconst (-1), 1) := by decide +kernel
theorem dX11_agree_23 : decode cX11_agree 23 = .ok (.ireturn, 1) := by decide +kernel
theorem dX11_agree_24 : decode cX11_agree 24 = .ok (.aload_n 0, 1) := by decide +kernel
theorem dX11_agree_25 : decode cX11_agree 25 = .ok (.getfield 32, 3) := by decide +kernel
theorem dX11_agree_28 : decode cX11_agree 28 = .ok (.invokevirtual 166, 3) := by decide +kernel
theorem dX11_agree_31 : decode cX11_agree 31 = .ok (.astore_n 3, 1) := by decide +kernel
theorem dX11_agree_32 : decode cX11_agree 32 = .ok (.aload_n 0, 1) := by decide +kernel
theorem dX11_agree_33 : decode cX11_agree 33 = .ok (.getfield 32, 3) := by decide +kernel
theorem dX11_agree_36 : decode cX11_agree 36 = .ok (.getfield 156, 3) := by decide +kernel
theorem dX11_agree_39 : decode cX11_agree 39 = .ok (.iconst 0, 1) := by decide +kernel
theorem dX11_agree_40 : decode cX11_agree 40 = .ok (.putfield 160, 3) := by decide +kernel
theorem dX11_agree_43 : decode cX11_agree 43 = .ok (.aload_n 3, 1) := by decide +kernel
theorem dX11_agree_44 : decode cX11_agree 44 = .ok (.ifnonnull 14, 3) := by decide +kernel
theorem dX11_agree_58 : decode cX11_agree 58 = .ok (.aload_n 0, 1) := by decide +kernel
theorem dX11_agree_59 : decode cX11_agree 59 = .ok (.getfield 38, 3) := by decide +kernel
theorem dX11_agree_62 : decode cX11_agree 62 = .ok (.iload_n 2, 1) := by decide +kernel
theorem dX11_agree_63 : decode cX11_agree 63 = .ok (.aload_n 3, 1) := by decide +kernel
theorem dX11_agree_64 : decode cX11_agree 64 = .ok (.aastore, 1) := by decide +kernel
theorem dX11_agree_65 : decode cX11_agree 65 = .ok (.aload_n 0, 1) := by decide +kernel
theorem dX11_agree_66 : decode cX11_agree 66 = .ok (.getfield 47, 3) := by decide +kernel
theorem dX11_agree_69 : decode cX11_agree 69 = .ok (.iload_n 1, 1) := by decide +kernel
theorem dX11_agree_70 : decode cX11_agree 70 = .ok (.iload_n 2, 1) := by decide +kernel
theorem dX11_agree_71 : decode cX11_agree 71 = .ok (.invokevirtual 147, 3) := by decide +kernel
theorem dX11_agree_74 : decode cX11_agree 74 = .ok (.iload_n 2, 1) := by decide +kernel
theorem dX11_agree_75 : decode cX11_agree 75 = .ok (.ireturn, 1) := by decide +kernel
theorem dX11_place_0 : decode cX11_place 0 = .ok (.aload_n 0, 1) := by decide +kernel
theorem dX11_place_1 : decode cX11_place 1 = .ok (.getfield 32, 3) := by decide +kernel
theorem dX11_place_4 : decode cX11_place 4 = .ok (.getfield 173, 3) := by decide +kernel
theorem dX11_place_7 : decode cX11_place 7 = .ok (.ireturn, 1) := by decide +kernel
set_option maxRecDepth 20000 in
theorem ggX11_on_X11_isDeckTrack : GoodIn wsX11_on wsX11_isDeckTrack := goodIn_r _ [8, 9, 10, 7, 11] (by decide +kernel) (by decide +kernel)
set_option maxRecDepth 20000 in
theorem gX11_on_X11_isDeckTrack : GoodIn wsX11_on (va_wsS RX11 176 yX11_isDeckTrack wsX11_isDeckTrack) := goodIn_app (goodIn_of _ (by decide +kernel)) ggX11_on_X11_isDeckTrack
set_option maxRecDepth 20000 in
theorem ggX11_on_X11_yardRow : GoodIn wsX11_on wsX11_yardRow := goodIn_r _ [15, 16, 17, 18, 19, 7, 20, 9, 10, 11, 158, 159, 160, 161, 162, 163, 164, 165, 166, 167, 168, 169, 170, 171, 172, 173, 174, 175, 190, 191, 192] (by decide +kernel) (by decide +kernel)
set_option maxRecDepth 20000 in
theorem gX11_on_X11_yardRow : GoodIn wsX11_on (wsV RX11 110 RX11 yX11_yardRow wsX11_yardRow) := goodIn_app (goodIn_of _ (by decide +kernel)) ggX11_on_X11_yardRow
set_option maxRecDepth 20000 in
theorem ggX11_on_X5_wagonAt : GoodIn wsX11_on wsX5_wagonAt := goodIn_r _ [25, 26, 27, 10, 7, 11, 193, 194, 195] (by decide +kernel) (by decide +kernel)
set_option maxRecDepth 20000 in
theorem gX11_on_X5_wagonAt : GoodIn wsX11_on (wsV RX11 179 RX5 yX5_wagonAt wsX5_wagonAt) := goodIn_app (goodIn_of _ (by decide +kernel)) ggX11_on_X5_wagonAt
theorem dX11_on_0 : decode cX11_on 0 = .ok (.iload_n 2, 1) := by decide +kernel
theorem dX11_on_1 : decode cX11_on 1 = .ok (.invokestatic 176, 3) := by decide +kernel
theorem dX11_on_4 : decode cX11_on 4 = .ok (.ifCond .ne 5, 3) := by decide +kernel
theorem dX11_on_7 : decode cX11_on 7 = .ok (.iconst (-1), 1) := by decide +kernel
theorem dX11_on_8 : decode cX11_on 8 = .ok (.ireturn, 1) := by decide +kernel
theorem dX11_on_9 : decode cX11_on 9 = .ok (.aload_n 0, 1) := by decide +kernel
theorem dX11_on_10 : decode cX11_on 10 = .ok (.getfield 70, 3) := by decide +kernel
theorem dX11_on_13 : decode cX11_on 13 = .ok (.iconst 2, 1) := by decide +kernel
theorem dX11_on_14 : decode cX11_on 14 = .ok (.if_icmp .ne 6, 3) := by decide +kernel
theorem dX11_on_20 : decode cX11_on 20 = .ok (.aload_n 0, 1) := by decide +kernel
theorem dX11_on_21 : decode cX11_on 21 = .ok (.aload_n 0, 1) := by decide +kernel
theorem dX11_on_22 : decode cX11_on 22 = .ok (.getfield 70, 3) := by decide +kernel
theorem dX11_on_25 : decode cX11_on 25 = .ok (.iload_n 1, 1) := by decide +kernel
theorem dX11_on_26 : decode cX11_on 26 = .ok (.invokevirtual 110, 3) := by decide +kernel
theorem dX11_on_29 : decode cX11_on 29 = .ok (.astore_n 3, 1) := by decide +kernel
theorem dX11_on_30 : decode cX11_on 30 = .ok (.aload_n 3, 1) := by decide +kernel
theorem dX11_on_31 : decode cX11_on 31 = .ok (.ifnonnull 7, 3) := by decide +kernel
theorem dX11_on_34 : decode cX11_on 34 = .ok (.aconst_null, 1) := by decide +kernel
theorem dX11_on_35 : decode cX11_on 35 = .ok (.goto 8, 3) := by decide +kernel
theorem dX11_on_38 : decode cX11_on 38 = .ok (.aload_n 3, 1) := by decide +kernel
theorem dX11_on_39 : decode cX11_on 39 = .ok (.iconst 0, 1) := by decide +kernel
theorem dX11_on_40 : decode cX11_on 40 = .ok (.invokevirtual 179, 3) := by decide +kernel
theorem dX11_on_43 : decode cX11_on 43 = .ok (.astore 4, 2) := by decide +kernel
theorem dX11_on_45 : decode cX11_on 45 = .ok (.aload 4, 2) := by decide +kernel
theorem dX11_on_47 : decode cX11_on 47 = .ok (.ifnonnull 5, 3) := by decide +kernel
theorem dX11_on_50 : decode cX11_on 50 = .ok (.iconst (-1), 1) := by decide +kernel
theorem dX11_on_51 : decode cX11_on 51 = .ok (.ireturn, 1) := by decide +kernel
set_option maxRecDepth 20000 in
theorem ggX11_off_X2_lastOf : GoodIn wsX11_off wsX2_lastOf := goodIn_r _ [17, 18, 19, 20, 21, 22, 23, 24, 25, 26, 27, 28, 29, 30, 31, 32, 183, 184, 195, 196, 197] (by decide +kernel) (by decide +kernel)
set_option maxRecDepth 20000 in
theorem gX11_off_X2_lastOf : GoodIn wsX11_off (wsV RX11 203 RX2 yX2_lastOf wsX2_lastOf) := goodIn_app (goodIn_of _ (by decide +kernel)) ggX11_off_X2_lastOf
theorem dX11_off_0 : decode cX11_off 0 = .ok (.aload_n 0, 1) := by decide +kernel
theorem dX11_off_1 : decode cX11_off 1 = .ok (.getfield 19, 3) := by decide +kernel
theorem dX11_off_4 : decode cX11_off 4 = .ok (.iload_n 1, 1) := by decide +kernel
theorem dX11_off_5 : decode cX11_off 5 = .ok (.invokevirtual 203, 3) := by decide +kernel
theorem dX11_off_8 : decode cX11_off 8 = .ok (.astore_n 3, 1) := by decide +kernel
theorem dX11_off_9 : decode cX11_off 9 = .ok (.aload_n 3, 1) := by decide +kernel
theorem dX11_off_10 : decode cX11_off 10 = .ok (.ifnonnull 5, 3) := by decide +kernel
theorem dX11_off_13 : decode cX11_off 13 = .ok (.iconst (-1), 1) := by decide +kernel
theorem dX11_off_14 : decode cX11_off 14 = .ok (.ireturn, 1) := by decide +kernel
set_option maxRecDepth 20000 in
theorem ggX11_sail_X8_chainsNeeded : GoodIn wsX11_sail wsX8_chainsNeeded := goodIn_r _ [14, 15, 36, 37, 38, 39, 40, 41, 42, 43, 44, 45] (by decide +kernel) (by decide +kernel)
set_option maxRecDepth 20000 in
theorem gX11_sail_X8_chainsNeeded : GoodIn wsX11_sail (wsV RX11 228 RX8 yX8_chainsNeeded wsX8_chainsNeeded) := goodIn_app (goodIn_of _ (by decide +kernel)) ggX11_sail_X8_chainsNeeded
theorem dX11_sail_0 : decode cX11_sail 0 = .ok (.aload_n 0, 1) := by decide +kernel
theorem dX11_sail_1 : decode cX11_sail 1 = .ok (.getfield 70, 3) := by decide +kernel
theorem dX11_sail_4 : decode cX11_sail 4 = .ok (.iconst 2, 1) := by decide +kernel
theorem dX11_sail_5 : decode cX11_sail 5 = .ok (.if_icmp .ne 5, 3) := by decide +kernel
theorem dX11_sail_10 : decode cX11_sail 10 = .ok (.aload_n 0, 1) := by decide +kernel
theorem dX11_sail_11 : decode cX11_sail 11 = .ok (.getfield 82, 3) := by decide +kernel
theorem dX11_sail_14 : decode cX11_sail 14 = .ok (.iconst 5, 1) := by decide +kernel
theorem dX11_sail_15 : decode cX11_sail 15 = .ok (.if_icmp .lt 6, 3) := by decide +kernel
theorem dX11_sail_21 : decode cX11_sail 21 = .ok (.aload_n 0, 1) := by decide +kernel
theorem dX11_sail_22 : decode cX11_sail 22 = .ok (.getfield 19, 3) := by decide +kernel
theorem dX11_sail_25 : decode cX11_sail 25 = .ok (.getfield 95, 3) := by decide +kernel
theorem dX11_sail_28 : decode cX11_sail 28 = .ok (.aload_n 0, 1) := by decide +kernel
theorem dX11_sail_29 : decode cX11_sail 29 = .ok (.getfield 82, 3) := by decide +kernel
theorem dX11_sail_32 : decode cX11_sail 32 = .ok (.invokevirtual 228, 3) := by decide +kernel
theorem dX11_sail_35 : decode cX11_sail 35 = .ok (.aload_n 0, 1) := by decide +kernel
theorem dX11_sail_36 : decode cX11_sail 36 = .ok (.getfield 88, 3) := by decide +kernel
theorem dX11_sail_39 : decode cX11_sail 39 = .ok (.if_icmp .le 6, 3) := by decide +kernel
theorem dX11_sail_45 : decode cX11_sail 45 = .ok (.aload_n 0, 1) := by decide +kernel
theorem dX11_sail_46 : decode cX11_sail 46 = .ok (.iconst 1, 1) := by decide +kernel
theorem dX11_sail_47 : decode cX11_sail 47 = .ok (.aload_n 0, 1) := by decide +kernel
theorem dX11_sail_48 : decode cX11_sail 48 = .ok (.getfield 70, 3) := by decide +kernel
theorem dX11_sail_51 : decode cX11_sail 51 = .ok (.isub, 1) := by decide +kernel
theorem dX11_sail_52 : decode cX11_sail 52 = .ok (.putfield 73, 3) := by decide +kernel
theorem dX11_sail_55 : decode cX11_sail 55 = .ok (.aload_n 0, 1) := by decide +kernel
theorem dX11_sail_56 : decode cX11_sail 56 = .ok (.iconst 2, 1) := by decide +kernel
theorem dX11_sail_57 : decode cX11_sail 57 = .ok (.putfield 70, 3) := by decide +kernel
theorem dX11_sail_60 : decode cX11_sail 60 = .ok (.aload_n 0, 1) := by decide +kernel
theorem dX11_sail_61 : decode cX11_sail 61 = .ok (.aload_n 0, 1) := by decide +kernel
theorem dX11_sail_62 : decode cX11_sail 62 = .ok (.getfield 67, 3) := by decide +kernel
theorem dX11_sail_65 : decode cX11_sail 65 = .ok (.bipush 10, 2) := by decide +kernel
theorem dX11_sail_67 : decode cX11_sail 67 = .ok (.iadd, 1) := by decide +kernel
theorem dX11_sail_68 : decode cX11_sail 68 = .ok (.iconst 3, 1) := by decide +kernel
theorem dX11_sail_69 : decode cX11_sail 69 = .ok (.aload_n 0, 1) := by decide +kernel
theorem dX11_sail_70 : decode cX11_sail 70 = .ok (.getfield 82, 3) := by decide +kernel
theorem dX11_sail_73 : decode cX11_sail 73 = .ok (.imul, 1) := by decide +kernel
theorem dX11_sail_74 : decode cX11_sail 74 = .ok (.iadd, 1) := by decide +kernel
theorem dX11_sail_75 : decode cX11_sail 75 = .ok (.putfield 76, 3) := by decide +kernel
theorem dX11_sail_78 : decode cX11_sail 78 = .ok (.aload_n 0, 1) := by decide +kernel
theorem dX11_sail_79 : decode cX11_sail 79 = .ok (.dup, 1) := by decide +kernel
theorem dX11_sail_80 : decode cX11_sail 80 = .ok (.getfield 79, 3) := by decide +kernel
theorem dX11_sail_83 : decode cX11_sail 83 = .ok (.iconst 1, 1) := by decide +kernel
theorem dX11_sail_84 : decode cX11_sail 84 = .ok (.iadd, 1) := by decide +kernel
theorem dX11_sail_85 : decode cX11_sail 85 = .ok (.putfield 79, 3) := by decide +kernel
theorem dX11_sail_88 : decode cX11_sail 88 = .ok (.aload_n 0, 1) := by decide +kernel
theorem dX11_sail_89 : decode cX11_sail 89 = .ok (.getfield 76, 3) := by decide +kernel
theorem dX11_sail_92 : decode cX11_sail 92 = .ok (.ireturn, 1) := by decide +kernel
set_option maxRecDepth 20000 in
theorem ggX11_loading_X11_canBeLoaded : GoodIn wsX11_loading wsX11_canBeLoaded := goodIn_r _ [11, 1, 12, 13, 14, 15, 16, 17, 18, 19, 10, 20, 21, 22, 23, 24, 25, 26, 27, 28, 158, 159, 160, 161, 162, 163, 164, 165, 166, 167, 168, 169, 170, 171, 172, 173, 174, 175, 186, 187, 188, 189, 190, 191] (by decide +kernel) (by decide +kernel)
set_option maxRecDepth 20000 in
theorem gX11_loading_X11_canBeLoaded : GoodIn wsX11_loading (wsV RX11 231 RX11 yX11_canBeLoaded wsX11_canBeLoaded) := goodIn_app (goodIn_of _ (by decide +kernel)) ggX11_loading_X11_canBeLoaded
set_option maxRecDepth 20000 in
theorem ggX11_loading_X4_init : GoodIn wsX11_loading wsX4_init := goodIn_r _ [30, 31, 32, 33, 34, 35, 36, 37, 38, 39, 40, 41, 42, 43, 44, 45, 46, 47, 48, 49, 50, 51, 52, 53, 54, 55, 56, 57, 58, 59, 60, 61, 176, 177, 178, 179, 180, 181, 182, 183, 184, 185, 192, 193, 194, 195, 196, 197, 198, 199, 200, 201] (by decide +kernel) (by decide +kernel)
set_option maxRecDepth 20000 in
theorem gX11_loading_X4_init_n236 : GoodIn wsX11_loading (wsX4_init) := ggX11_loading_X4_init
set_option maxRecDepth 20000 in
theorem ggX11_loading_X4_prepare : GoodIn wsX11_loading wsX4_prepare := goodIn_r _ [65, 41, 66, 48, 67, 68, 69, 40, 70, 52, 71, 72, 73, 74, 53, 54, 55, 56, 57, 58, 59, 60, 61, 75, 76, 77, 78, 176, 177, 178, 179, 180, 181, 182, 183, 184, 185, 202, 203, 192, 193, 194, 195, 196, 197, 198, 199, 200, 201] (by decide +kernel) (by decide +kernel)
set_option maxRecDepth 20000 in
theorem gX11_loading_X4_prepare : GoodIn wsX11_loading (wsV RX11 237 RX4 yX4_prepare wsX4_prepare) := goodIn_app (goodIn_of _ (by decide +kernel)) ggX11_loading_X4_prepare
set_option maxRecDepth 20000 in
theorem ggX11_loading_X11_yardRow : GoodIn wsX11_loading wsX11_yardRow := goodIn_r _ [20, 21, 22, 23, 24, 10, 25, 26, 27, 28, 158, 159, 160, 161, 162, 163, 164, 165, 166, 167, 168, 169, 170, 171, 172, 173, 174, 175, 189, 190, 191] (by decide +kernel) (by decide +kernel)
set_option maxRecDepth 20000 in
theorem gX11_loading_X11_yardRow : GoodIn wsX11_loading (wsV RX11 110 RX11 yX11_yardRow wsX11_yardRow) := goodIn_app (goodIn_of _ (by decide +kernel)) ggX11_loading_X11_yardRow
set_option maxRecDepth 20000 in
theorem ggX11_loading_X4_want : GoodIn wsX11_loading wsX4_want := goodIn_r _ [82, 43, 44, 45, 46, 47, 176, 177, 178, 179, 180, 181, 182, 183, 184, 185] (by decide +kernel) (by decide +kernel)
set_option maxRecDepth 20000 in
theorem gX11_loading_X4_want : GoodIn wsX11_loading (wsV RX11 241 RX4 yX4_want wsX4_want) := goodIn_app (goodIn_of _ (by decide +kernel)) ggX11_loading_X4_want
set_option maxRecDepth 20000 in
theorem ggX11_loading_X4_findBest : GoodIn wsX11_loading wsX4_findBest := goodIn_r _ [86, 87, 88, 14, 15, 16, 34, 89, 90, 91, 5, 92, 48, 93, 94, 95, 96, 46, 47, 97, 98, 99, 100, 44, 101, 102, 103, 104, 41, 105, 106, 107, 108, 109, 110, 111, 43, 45, 112, 113, 114, 115, 116, 117, 118, 27, 10, 28, 119, 120, 121, 40, 122, 59, 123, 124, 125, 126, 127, 128, 129, 130, 52, 53, 131, 60, 132, 61, 133, 134, 135, 136, 55, 54, 137, 138, 139, 140, 141, 142, 143, 144, 145, 146, 147, 148, 149, 56, 57, 58, 150, 151, 152, 153, 154, 155, 156, 157, 36, 37, 176, 177, 178, 179, 180, 181, 182, 183, 184, 185, 186, 187, 188, 192, 193, 194, 195, 196, 197, 198, 199, 200, 201, 204, 205, 206, 207, 208, 209, 210, 211, 212, 213, 214, 215] (by decide +kernel) (by decide +kernel)
set_option maxRecDepth 20000 in
theorem gX11_loading_X4_findBest : GoodIn wsX11_loading (wsV RX11 245 RX4 yX4_findBest wsX4_findBest) := goodIn_app (goodIn_of _ (by decide +kernel)) ggX11_loading_X4_findBest
theorem dX11_loading_0 : decode cX11_loading 0 = .ok (.aload_n 0, 1) := by decide +kernel
theorem dX11_loading_1 : decode cX11_loading 1 = .ok (.getfield 70, 3) := by decide +kernel
theorem dX11_loading_4 : decode cX11_loading 4 = .ok (.iconst 2, 1) := by decide +kernel
theorem dX11_loading_5 : decode cX11_loading 5 = .ok (.if_icmp .eq 30, 3) := by decide +kernel
theorem dX11_loading_8 : decode cX11_loading 8 = .ok (.aload_n 0, 1) := by decide +kernel
theorem dX11_loading_9 : decode cX11_loading 9 = .ok (.iconst 0, 1) := by decide +kernel
theorem dX11_loading_10 : decode cX11_loading 10 = .ok (.iload_n 1, 1) := by decide +kernel
theorem dX11_loading_11 : decode cX11_loading 11 = .ok (.invokevirtual 231, 3) := by decide +kernel
theorem dX11_loading_14 : decode cX11_loading 14 = .ok (.ifCond .eq 21, 3) := by decide +kernel
theorem dX11_loading_17 : decode cX11_loading 17 = .ok (.aload_n 0, 1) := by decide +kernel
theorem dX11_loading_18 : decode cX11_loading 18 = .ok (.iconst 1, 1) := by decide +kernel
theorem dX11_loading_19 : decode cX11_loading 19 = .ok (.iload_n 2, 1) := by decide +kernel
theorem dX11_loading_20 : decode cX11_loading 20 = .ok (.invokevirtual 231, 3) := by decide +kernel
theorem dX11_loading_23 : decode cX11_loading 23 = .ok (.ifCond .eq 12, 3) := by decide +kernel
theorem dX11_loading_26 : decode cX11_loading 26 = .ok (.aload_n 0, 1) := by decide +kernel
theorem dX11_loading_27 : decode cX11_loading 27 = .ok (.iconst 2, 1) := by decide +kernel
theorem dX11_loading_28 : decode cX11_loading 28 = .ok (.iload_n 3, 1) := by decide +kernel
theorem dX11_loading_29 : decode cX11_loading 29 = .ok (.invokevirtual 231, 3) := by decide +kernel
theorem dX11_loading_32 : decode cX11_loading 32 = .ok (.ifCond .ne 5, 3) := by decide +kernel
theorem dX11_loading_35 : decode cX11_loading 35 = .ok (.iconst (-1), 1) := by decide +kernel
theorem dX11_loading_36 : decode cX11_loading 36 = .ok (.ireturn, 1) := by decide +kernel
theorem dX11_loading_37 : decode cX11_loading 37 = .ok (.iload_n 1, 1) := by decide +kernel
theorem dX11_loading_38 : decode cX11_loading 38 = .ok (.iload_n 2, 1) := by decide +kernel
theorem dX11_loading_39 : decode cX11_loading 39 = .ok (.iadd, 1) := by decide +kernel
theorem dX11_loading_40 : decode cX11_loading 40 = .ok (.iload_n 3, 1) := by decide +kernel
theorem dX11_loading_41 : decode cX11_loading 41 = .ok (.iadd, 1) := by decide +kernel
theorem dX11_loading_42 : decode cX11_loading 42 = .ok (.bipush 6, 2) := by decide +kernel
theorem dX11_loading_44 : decode cX11_loading 44 = .ok (.if_icmp .le 5, 3) := by decide +kernel
theorem dX11_loading_49 : decode cX11_loading 49 = .ok (.aload_n 0, 1) := by decide +kernel
theorem dX11_loading_50 : decode cX11_loading 50 = .ok (.getfield 51, 3) := by decide +kernel
theorem dX11_loading_53 : decode cX11_loading 53 = .ok (.ifnonnull 14, 3) := by decide +kernel
theorem dX11_loading_56 : decode cX11_loading 56 = .ok (.aload_n 0, 1) := by decide +kernel
theorem dX11_loading_57 : decode cX11_loading 57 = .ok (.new 234, 3) := by decide +kernel
theorem dX11_loading_60 : decode cX11_loading 60 = .ok (.dup, 1) := by decide +kernel
theorem dX11_loading_61 : decode cX11_loading 61 = .ok (.invokespecial 236, 3) := by decide +kernel
theorem dX11_loading_64 : decode cX11_loading 64 = .ok (.putfield 51, 3) := by decide +kernel
theorem dX11_loading_67 : decode cX11_loading 67 = .ok (.aload_n 0, 1) := by decide +kernel
theorem dX11_loading_68 : decode cX11_loading 68 = .ok (.getfield 51, 3) := by decide +kernel
theorem dX11_loading_71 : decode cX11_loading 71 = .ok (.aload_n 0, 1) := by decide +kernel
theorem dX11_loading_72 : decode cX11_loading 72 = .ok (.getfield 19, 3) := by decide +kernel
theorem dX11_loading_75 : decode cX11_loading 75 = .ok (.invokevirtual 237, 3) := by decide +kernel
theorem dX11_loading_78 : decode cX11_loading 78 = .ok (.aload_n 0, 1) := by decide +kernel
theorem dX11_loading_79 : decode cX11_loading 79 = .ok (.getfield 51, 3) := by decide +kernel
theorem dX11_loading_82 : decode cX11_loading 82 = .ok (.iconst 0, 1) := by decide +kernel
theorem dX11_loading_83 : decode cX11_loading 83 = .ok (.iload_n 1, 1) := by decide +kernel
theorem dX11_loading_84 : decode cX11_loading 84 = .ok (.aload_n 0, 1) := by decide +kernel
theorem dX11_loading_85 : decode cX11_loading 85 = .ok (.aload_n 0, 1) := by decide +kernel
theorem dX11_loading_86 : decode cX11_loading 86 = .ok (.getfield 70, 3) := by decide +kernel
theorem dX11_loading_89 : decode cX11_loading 89 = .ok (.iconst 0, 1) := by decide +kernel
theorem dX11_loading_90 : decode cX11_loading 90 = .ok (.invokevirtual 110, 3) := by decide +kernel
theorem dX11_loading_93 : decode cX11_loading 93 = .ok (.invokevirtual 241, 3) := by decide +kernel
theorem dX11_loading_96 : decode cX11_loading 96 = .ok (.aload_n 0, 1) := by decide +kernel
theorem dX11_loading_97 : decode cX11_loading 97 = .ok (.getfield 51, 3) := by decide +kernel
theorem dX11_loading_100 : decode cX11_loading 100 = .ok (.iconst 1, 1) := by decide +kernel
theorem dX11_loading_101 : decode cX11_loading 101 = .ok (.iload_n 2, 1) := by decide +kernel
theorem dX11_loading_102 : decode cX11_loading 102 = .ok (.aload_n 0, 1) := by decide +kernel
theorem dX11_loading_103 : decode cX11_loading 103 = .ok (.aload_n 0, 1) := by decide +kernel
theorem dX11_loading_104 : decode cX11_loading 104 = .ok (.getfield 70, 3) := by decide +kernel
theorem dX11_loading_107 : decode cX11_loading 107 = .ok (.iconst 1, 1) := by decide +kernel
theorem dX11_loading_108 : decode cX11_loading 108 = .ok (.invokevirtual 110, 3) := by decide +kernel
theorem dX11_loading_111 : decode cX11_loading 111 = .ok (.invokevirtual 241, 3) := by decide +kernel
theorem dX11_loading_114 : decode cX11_loading 114 = .ok (.aload_n 0, 1) := by decide +kernel
theorem dX11_loading_115 : decode cX11_loading 115 = .ok (.getfield 51, 3) := by decide +kernel
theorem dX11_loading_118 : decode cX11_loading 118 = .ok (.iconst 2, 1) := by decide +kernel
theorem dX11_loading_119 : decode cX11_loading 119 = .ok (.iload_n 3, 1) := by decide +kernel
theorem dX11_loading_120 : decode cX11_loading 120 = .ok (.aload_n 0, 1) := by decide +kernel
theorem dX11_loading_121 : decode cX11_loading 121 = .ok (.aload_n 0, 1) := by decide +kernel
theorem dX11_loading_122 : decode cX11_loading 122 = .ok (.getfield 70, 3) := by decide +kernel
theorem dX11_loading_125 : decode cX11_loading 125 = .ok (.iconst 2, 1) := by decide +kernel
theorem dX11_loading_126 : decode cX11_loading 126 = .ok (.invokevirtual 110, 3) := by decide +kernel
theorem dX11_loading_129 : decode cX11_loading 129 = .ok (.invokevirtual 241, 3) := by decide +kernel
theorem dX11_loading_132 : decode cX11_loading 132 = .ok (.aload_n 0, 1) := by decide +kernel
theorem dX11_loading_133 : decode cX11_loading 133 = .ok (.getfield 51, 3) := by decide +kernel
theorem dX11_loading_136 : decode cX11_loading 136 = .ok (.invokevirtual 245, 3) := by decide +kernel
theorem dX11_loading_139 : decode cX11_loading 139 = .ok (.ireturn, 1) := by decide +kernel
theorem dX11_step_0 : decode cX11_step 0 = .ok (.aload_n 0, 1) := by decide +kernel
theorem dX11_step_1 : decode cX11_step 1 = .ok (.getfield 51, 3) := by decide +kernel
theorem dX11_step_4 : decode cX11_step 4 = .ok (.ifnull 20, 3) := by decide +kernel
theorem dX11_step_24 : decode cX11_step 24 = .ok (.iconst (-1), 1) := by decide +kernel
theorem dX11_step_25 : decode cX11_step 25 = .ok (.ireturn, 1) := by decide +kernel
set_option maxRecDepth 20000 in
theorem ggX11_emptying_X11_bestEmptying : GoodIn wsX11_emptying wsX11_bestEmptying := goodIn_r _ [6, 7, 8, 9, 10, 11, 12, 13, 14, 15, 16, 17, 18, 19, 20, 21, 22, 23, 24, 25, 26, 27, 28, 29, 30, 31, 32, 33, 34, 35, 36, 37, 38, 39, 40, 41, 42, 43, 44, 45, 46, 47, 48, 5, 49, 50, 51, 52, 53, 54, 55, 56, 57, 58, 59, 60, 61, 62, 63, 64, 65, 66, 67, 68, 69, 70, 71, 72, 73, 74, 75, 76, 77, 78, 79, 80, 81, 82, 83, 84, 92, 93, 94, 95, 96, 97, 98, 99, 100, 101, 102, 103, 104, 105, 106, 107, 108, 109, 85, 86, 87, 88, 89, 90, 91, 110, 111, 112, 113, 114, 115, 116, 117, 118, 119, 120, 121, 122, 123, 124, 125, 126, 127, 128, 129, 130, 131, 132, 133, 134, 135, 136] (by decide +kernel) (by decide +kernel)
set_option maxRecDepth 20000 in
theorem gX11_emptying_X11_bestEmptying : GoodIn wsX11_emptying (wsV RX11 257 RX11 yX11_bestEmptying wsX11_bestEmptying) := goodIn_app (goodIn_of _ (by decide +kernel)) ggX11_emptying_X11_bestEmptying
theorem dX11_emptying_0 : decode cX11_emptying 0 = .ok (.aload_n 0, 1) := by decide +kernel
theorem dX11_emptying_1 : decode cX11_emptying 1 = .ok (.invokevirtual 257, 3) := by decide +kernel
theorem dX11_emptying_4 : decode cX11_emptying 4 = .ok (.getfield 261, 3) := by decide +kernel
theorem dX11_emptying_7 : decode cX11_emptying 7 = .ok (.ireturn, 1) := by decide +kernel
set_option maxRecDepth 20000 in
theorem ggX11_emptied_X11_bestEmptying : GoodIn wsX11_emptied wsX11_bestEmptying := goodIn_r _ [7, 8, 9, 10, 11, 12, 13, 14, 15, 16, 17, 18, 19, 20, 21, 22, 23, 24, 25, 26, 27, 28, 29, 30, 31, 32, 33, 34, 35, 36, 37, 38, 39, 40, 41, 42, 43, 44, 45, 46, 47, 48, 49, 6, 50, 51, 52, 53, 54, 55, 56, 57, 58, 59, 60, 61, 62, 63, 64, 65, 66, 67, 68, 69, 70, 71, 72, 73, 74, 75, 76, 77, 78, 79, 80, 81, 82, 83, 84, 85, 94, 95, 96, 97, 98, 99, 100, 101, 102, 103, 104, 105, 106, 107, 108, 109, 110, 111, 87, 88, 89, 90, 91, 92, 93, 112, 113, 114, 115, 116, 117, 118, 119, 120, 121, 122, 123, 124, 125, 126, 127, 128, 129, 130, 131, 132, 133, 134, 135, 136, 137, 138] (by decide +kernel) (by decide +kernel)
set_option maxRecDepth 20000 in
theorem gX11_emptied_X11_bestEmptying : GoodIn wsX11_emptied (wsV RX11 257 RX11 yX11_bestEmptying wsX11_bestEmptying) := goodIn_app (goodIn_of _ (by decide +kernel)) ggX11_emptied_X11_bestEmptying
set_option maxRecDepth 20000 in
theorem ggX11_emptied_X11_isWithin : GoodIn wsX11_emptied wsX11_isWithin := goodIn_r _ [50] (by decide +kernel) (by decide +kernel)
set_option maxRecDepth 20000 in
theorem gX11_emptied_X11_isWithin : GoodIn wsX11_emptied (va_wsS RX11 91 yX11_isWithin wsX11_isWithin) := goodIn_app (goodIn_of _ (by decide +kernel)) ggX11_emptied_X11_isWithin
theorem dX11_emptied_0 : decode cX11_emptied 0 = .ok (.aload_n 0, 1) := by decide +kernel
theorem dX11_emptied_1 : decode cX11_emptied 1 = .ok (.invokevirtual 257, 3) := by decide +kernel
theorem dX11_emptied_4 : decode cX11_emptied 4 = .ok (.astore_n 2, 1) := by decide +kernel
theorem dX11_emptied_5 : decode cX11_emptied 5 = .ok (.iload_n 1, 1) := by decide +kernel
theorem dX11_emptied_6 : decode cX11_emptied 6 = .ok (.iconst 0, 1) := by decide +kernel
theorem dX11_emptied_7 : decode cX11_emptied 7 = .ok (.aload_n 2, 1) := by decide +kernel
theorem dX11_emptied_8 : decode cX11_emptied 8 = .ok (.getfield 266, 3) := by decide +kernel
theorem dX11_emptied_11 : decode cX11_emptied 11 = .ok (.iconst 1, 1) := by decide +kernel
theorem dX11_emptied_12 : decode cX11_emptied 12 = .ok (.isub, 1) := by decide +kernel
theorem dX11_emptied_13 : decode cX11_emptied 13 = .ok (.invokestatic 91, 3) := by decide +kernel
theorem dX11_emptied_16 : decode cX11_emptied 16 = .ok (.ifCond .eq 12, 3) := by decide +kernel
theorem dX11_emptied_28 : decode cX11_emptied 28 = .ok (.iconst (-1), 1) := by decide +kernel
theorem dX11_emptied_29 : decode cX11_emptied 29 = .ok (.ireturn, 1) := by decide +kernel
set_option maxRecDepth 20000 in
theorem ggX11_deck_X11_isDeckTrack : GoodIn wsX11_deck wsX11_isDeckTrack := goodIn_r _ [6, 7, 8, 5, 9] (by decide +kernel) (by decide +kernel)
set_option maxRecDepth 20000 in
theorem gX11_deck_X11_isDeckTrack : GoodIn wsX11_deck (va_wsS RX11 176 yX11_isDeckTrack wsX11_isDeckTrack) := goodIn_app (goodIn_of _ (by decide +kernel)) ggX11_deck_X11_isDeckTrack
set_option maxRecDepth 20000 in
theorem ggX11_deck_X5_wagonAt : GoodIn wsX11_deck wsX5_wagonAt := goodIn_r _ [14, 15, 16, 8, 5, 9, 41, 42, 43] (by decide +kernel) (by decide +kernel)
set_option maxRecDepth 20000 in
theorem gX11_deck_X5_wagonAt : GoodIn wsX11_deck (wsV RX11 179 RX5 yX5_wagonAt wsX5_wagonAt) := goodIn_app (goodIn_of _ (by decide +kernel)) ggX11_deck_X5_wagonAt
set_option maxRecDepth 20000 in
theorem ggX11_deck_X11_numberOf : GoodIn wsX11_deck wsX11_numberOf := goodIn_r _ [19, 20, 44, 45, 46, 47, 48, 49, 50, 51, 52, 53, 54, 55] (by decide +kernel) (by decide +kernel)
set_option maxRecDepth 20000 in
theorem gX11_deck_X11_numberOf : GoodIn wsX11_deck (va_wsS RX11 286 yX11_numberOf wsX11_numberOf) := goodIn_app (goodIn_of _ (by decide +kernel)) ggX11_deck_X11_numberOf
theorem dX11_deck_0 : decode cX11_deck 0 = .ok (.iload_n 1, 1) := by decide +kernel
theorem dX11_deck_1 : decode cX11_deck 1 = .ok (.invokestatic 176, 3) := by decide +kernel
theorem dX11_deck_4 : decode cX11_deck 4 = .ok (.ifCond .eq 22, 3) := by decide +kernel
theorem dX11_deck_7 : decode cX11_deck 7 = .ok (.aload_n 0, 1) := by decide +kernel
theorem dX11_deck_8 : decode cX11_deck 8 = .ok (.getfield 19, 3) := by decide +kernel
theorem dX11_deck_11 : decode cX11_deck 11 = .ok (.getfield 282, 3) := by decide +kernel
theorem dX11_deck_14 : decode cX11_deck 14 = .ok (.iload_n 1, 1) := by decide +kernel
theorem dX11_deck_15 : decode cX11_deck 15 = .ok (.aaload, 1) := by decide +kernel
theorem dX11_deck_16 : decode cX11_deck 16 = .ok (.iload_n 2, 1) := by decide +kernel
theorem dX11_deck_17 : decode cX11_deck 17 = .ok (.invokevirtual 179, 3) := by decide +kernel
theorem dX11_deck_20 : decode cX11_deck 20 = .ok (.invokestatic 286, 3) := by decide +kernel
theorem dX11_deck_23 : decode cX11_deck 23 = .ok (.goto 4, 3) := by decide +kernel
theorem dX11_deck_26 : decode cX11_deck 26 = .ok (.iconst (-1), 1) := by decide +kernel
theorem dX11_deck_27 : decode cX11_deck 27 = .ok (.ireturn, 1) := by decide +kernel
set_option maxRecDepth 20000 in
theorem ggX11_yard_X11_yardRow : GoodIn wsX11_yard wsX11_yardRow := goodIn_r _ [5, 6, 7, 8, 9, 4, 10, 11, 12, 13, 25, 26, 27, 28, 29, 30, 31, 32, 33, 34, 35, 36, 37, 38, 39, 40, 41, 42, 43, 44, 45] (by decide +kernel) (by decide +kernel)
set_option maxRecDepth 20000 in
theorem gX11_yard_X11_yardRow : GoodIn wsX11_yard (wsV RX11 110 RX11 yX11_yardRow wsX11_yardRow) := goodIn_app (goodIn_of _ (by decide +kernel)) ggX11_yard_X11_yardRow
set_option maxRecDepth 20000 in
theorem ggX11_yard_X5_wagonAt : GoodIn wsX11_yard wsX5_wagonAt := goodIn_r _ [18, 19, 20, 12, 4, 13, 46, 47, 48] (by decide +kernel) (by decide +kernel)
set_option maxRecDepth 20000 in
theorem gX11_yard_X5_wagonAt : GoodIn wsX11_yard (wsV RX11 179 RX5 yX5_wagonAt wsX5_wagonAt) := goodIn_app (goodIn_of _ (by decide +kernel)) ggX11_yard_X5_wagonAt
set_option maxRecDepth 20000 in
theorem ggX11_yard_X11_numberOf : GoodIn wsX11_yard wsX11_numberOf := goodIn_r _ [23, 24, 49, 50, 51, 52, 53, 54, 55, 56, 57, 58, 59, 60] (by decide +kernel) (by decide +kernel)
set_option maxRecDepth 20000 in
theorem gX11_yard_X11_numberOf : GoodIn wsX11_yard (va_wsS RX11 286 yX11_numberOf wsX11_numberOf) := goodIn_app (goodIn_of _ (by decide +kernel)) ggX11_yard_X11_numberOf
theorem dX11_yard_0 : decode cX11_yard 0 = .ok (.aload_n 0, 1) := by decide +kernel
theorem dX11_yard_1 : decode cX11_yard 1 = .ok (.iload_n 1, 1) := by decide +kernel
theorem dX11_yard_2 : decode cX11_yard 2 = .ok (.iload_n 2, 1) := by decide +kernel
theorem dX11_yard_3 : decode cX11_yard 3 = .ok (.invokevirtual 110, 3) := by decide +kernel
theorem dX11_yard_6 : decode cX11_yard 6 = .ok (.astore 4, 2) := by decide +kernel
theorem dX11_yard_8 : decode cX11_yard 8 = .ok (.aload 4, 2) := by decide +kernel
theorem dX11_yard_10 : decode cX11_yard 10 = .ok (.ifnonnull 7, 3) := by decide +kernel
theorem dX11_yard_13 : decode cX11_yard 13 = .ok (.iconst (-1), 1) := by decide +kernel
theorem dX11_yard_14 : decode cX11_yard 14 = .ok (.goto 12, 3) := by decide +kernel
theorem dX11_yard_17 : decode cX11_yard 17 = .ok (.aload 4, 2) := by decide +kernel
theorem dX11_yard_19 : decode cX11_yard 19 = .ok (.iload_n 3, 1) := by decide +kernel
theorem dX11_yard_20 : decode cX11_yard 20 = .ok (.invokevirtual 179, 3) := by decide +kernel
theorem dX11_yard_23 : decode cX11_yard 23 = .ok (.invokestatic 286, 3) := by decide +kernel
theorem dX11_yard_26 : decode cX11_yard 26 = .ok (.ireturn, 1) := by decide +kernel
set_option maxRecDepth 20000 in
theorem ggX11_of_X11_isWithin : GoodIn wsX11_of wsX11_isWithin := goodIn_r _ [6] (by decide +kernel) (by decide +kernel)
set_option maxRecDepth 20000 in
theorem gX11_of_X11_isWithin : GoodIn wsX11_of (va_wsS RX11 91 yX11_isWithin wsX11_isWithin) := goodIn_app (goodIn_of _ (by decide +kernel)) ggX11_of_X11_isWithin
theorem dX11_of_0 : decode cX11_of 0 = .ok (.iload_n 1, 1) := by decide +kernel
theorem dX11_of_1 : decode cX11_of 1 = .ok (.iconst 0, 1) := by decide +kernel
theorem dX11_of_2 : decode cX11_of 2 = .ok (.aload_n 0, 1) := by decide +kernel
theorem dX11_of_3 : decode cX11_of 3 = .ok (.getfield 63, 3) := by decide +kernel
theorem dX11_of_6 : decode cX11_of 6 = .ok (.iconst 1, 1) := by decide +kernel
theorem dX11_of_7 : decode cX11_of 7 = .ok (.isub, 1) := by decide +kernel
theorem dX11_of_8 : decode cX11_of 8 = .ok (.invokestatic 91, 3) := by decide +kernel
theorem dX11_of_11 : decode cX11_of 11 = .ok (.ifCond .ne 5, 3) := by decide +kernel
theorem dX11_of_14 : decode cX11_of 14 = .ok (.iconst (-1), 1) := by decide +kernel
theorem dX11_of_15 : decode cX11_of 15 = .ok (.ireturn, 1) := by decide +kernel
set_option maxRecDepth 20000 in
theorem ggX11_count_X6_valueIn : GoodIn wsX11_count wsX6_valueIn := goodIn_r _ [15, 16, 17, 18, 19, 20, 14, 21, 22, 23, 50, 51, 52, 53] (by decide +kernel) (by decide +kernel)
set_option maxRecDepth 20000 in
theorem gX11_count_X6_valueIn : GoodIn wsX11_count (wsV RX11 292 RX6 yX6_valueIn wsX6_valueIn) := goodIn_app (goodIn_of _ (by decide +kernel)) ggX11_count_X6_valueIn
set_option maxRecDepth 20000 in
theorem ggX11_count_X11_allPaidBy : GoodIn wsX11_count wsX11_allPaidBy := goodIn_r _ [28, 2, 29, 30, 31, 32, 33, 34, 35, 36, 37, 38, 39, 40, 41, 42, 43, 44, 45, 46, 47, 48, 49, 62, 63, 64, 65, 66, 67, 68, 69, 70, 71, 72, 73] (by decide +kernel) (by decide +kernel)
set_option maxRecDepth 20000 in
theorem gX11_count_X11_allPaidBy : GoodIn wsX11_count (wsV RX11 296 RX11 yX11_allPaidBy wsX11_allPaidBy) := goodIn_app (goodIn_of _ (by decide +kernel)) ggX11_count_X11_allPaidBy
theorem dX11_count_0 : decode cX11_count 0 = .ok (.iload_n 1, 1) := by decide +kernel
theorem dX11_count_1 : decode cX11_count 1 = .ok (.tableswitch 122 0 8 #[51, 57, 63, 72, 86, 98, 104, 110, 116], 51) := by decide +kernel
theorem dX11_count_52 : decode cX11_count 52 = .ok (.aload_n 0, 1) := by decide +kernel
theorem dX11_count_53 : decode cX11_count 53 = .ok (.getfield 67, 3) := by decide +kernel
theorem dX11_count_56 : decode cX11_count 56 = .ok (.i2l, 1) := by decide +kernel
theorem dX11_count_57 : decode cX11_count 57 = .ok (.lreturn, 1) := by decide +kernel
theorem dX11_count_58 : decode cX11_count 58 = .ok (.aload_n 0, 1) := by decide +kernel
theorem dX11_count_59 : decode cX11_count 59 = .ok (.getfield 63, 3) := by decide +kernel
theorem dX11_count_62 : decode cX11_count 62 = .ok (.i2l, 1) := by decide +kernel
theorem dX11_count_63 : decode cX11_count 63 = .ok (.lreturn, 1) := by decide +kernel
theorem dX11_count_64 : decode cX11_count 64 = .ok (.aload_n 0, 1) := by decide +kernel
theorem dX11_count_65 : decode cX11_count 65 = .ok (.getfield 47, 3) := by decide +kernel
theorem dX11_count_68 : decode cX11_count 68 = .ok (.getfield 144, 3) := by decide +kernel
theorem dX11_count_71 : decode cX11_count 71 = .ok (.i2l, 1) := by decide +kernel
theorem dX11_count_72 : decode cX11_count 72 = .ok (.lreturn, 1) := by decide +kernel
theorem dX11_count_73 : decode cX11_count 73 = .ok (.aload_n 0, 1) := by decide +kernel
theorem dX11_count_74 : decode cX11_count 74 = .ok (.getfield 47, 3) := by decide +kernel
theorem dX11_count_77 : decode cX11_count 77 = .ok (.aload_n 0, 1) := by decide +kernel
theorem dX11_count_78 : decode cX11_count 78 = .ok (.getfield 67, 3) := by decide +kernel
theorem dX11_count_81 : decode cX11_count 81 = .ok (.iconst (-1), 1) := by decide +kernel
theorem dX11_count_82 : decode cX11_count 82 = .ok (.invokevirtual 292, 3) := by decide +kernel
theorem dX11_count_85 : decode cX11_count 85 = .ok (.i2l, 1) := by decide +kernel
theorem dX11_count_86 : decode cX11_count 86 = .ok (.lreturn, 1) := by decide +kernel
theorem dX11_count_87 : decode cX11_count 87 = .ok (.aload_n 0, 1) := by decide +kernel
theorem dX11_count_88 : decode cX11_count 88 = .ok (.getfield 32, 3) := by decide +kernel
theorem dX11_count_91 : decode cX11_count 91 = .ok (.getfield 156, 3) := by decide +kernel
theorem dX11_count_94 : decode cX11_count 94 = .ok (.getfield 160, 3) := by decide +kernel
theorem dX11_count_97 : decode cX11_count 97 = .ok (.i2l, 1) := by decide +kernel
theorem dX11_count_98 : decode cX11_count 98 = .ok (.lreturn, 1) := by decide +kernel
theorem dX11_count_99 : decode cX11_count 99 = .ok (.aload_n 0, 1) := by decide +kernel
theorem dX11_count_100 : decode cX11_count 100 = .ok (.getfield 82, 3) := by decide +kernel
theorem dX11_count_103 : decode cX11_count 103 = .ok (.i2l, 1) := by decide +kernel
theorem dX11_count_104 : decode cX11_count 104 = .ok (.lreturn, 1) := by decide +kernel
theorem dX11_count_105 : decode cX11_count 105 = .ok (.aload_n 0, 1) := by decide +kernel
theorem dX11_count_106 : decode cX11_count 106 = .ok (.iconst 0, 1) := by decide +kernel
theorem dX11_count_107 : decode cX11_count 107 = .ok (.invokevirtual 296, 3) := by decide +kernel
theorem dX11_count_110 : decode cX11_count 110 = .ok (.lreturn, 1) := by decide +kernel
theorem dX11_count_111 : decode cX11_count 111 = .ok (.aload_n 0, 1) := by decide +kernel
theorem dX11_count_112 : decode cX11_count 112 = .ok (.iconst 1, 1) := by decide +kernel
theorem dX11_count_113 : decode cX11_count 113 = .ok (.invokevirtual 296, 3) := by decide +kernel
theorem dX11_count_116 : decode cX11_count 116 = .ok (.lreturn, 1) := by decide +kernel
theorem dX11_count_117 : decode cX11_count 117 = .ok (.aload_n 0, 1) := by decide +kernel
theorem dX11_count_118 : decode cX11_count 118 = .ok (.getfield 79, 3) := by decide +kernel
theorem dX11_count_121 : decode cX11_count 121 = .ok (.i2l, 1) := by decide +kernel
theorem dX11_count_122 : decode cX11_count 122 = .ok (.lreturn, 1) := by decide +kernel
theorem dX11_count_123 : decode cX11_count 123 = .ok (.ldc2_w 300, 3) := by decide +kernel
theorem dX11_count_126 : decode cX11_count 126 = .ok (.lreturn, 1) := by decide +kernel
theorem dX11_isWithin_0 : decode cX11_isWithin 0 = .ok (.iload_n 0, 1) := by decide +kernel
theorem dX11_isWithin_1 : decode cX11_isWithin 1 = .ok (.iload_n 1, 1) := by decide +kernel
theorem dX11_isWithin_2 : decode cX11_isWithin 2 = .ok (.if_icmp .lt 12, 3) := by decide +kernel
theorem dX11_isWithin_5 : decode cX11_isWithin 5 = .ok (.iload_n 0, 1) := by decide +kernel
theorem dX11_isWithin_6 : decode cX11_isWithin 6 = .ok (.iload_n 2, 1) := by decide +kernel
theorem dX11_isWithin_7 : decode cX11_isWithin 7 = .ok (.if_icmp .gt 7, 3) := by decide +kernel
theorem dX11_isWithin_10 : decode cX11_isWithin 10 = .ok (.iconst 1, 1) := by decide +kernel
theorem dX11_isWithin_11 : decode cX11_isWithin 11 = .ok (.goto 4, 3) := by decide +kernel
theorem dX11_isWithin_14 : decode cX11_isWithin 14 = .ok (.iconst 0, 1) := by decide +kernel
theorem dX11_isWithin_15 : decode cX11_isWithin 15 = .ok (.ireturn, 1) := by decide +kernel
set_option maxRecDepth 20000 in
theorem ggX11_isShore_X11_isWithin : GoodIn wsX11_isShore wsX11_isWithin := goodIn_r _ [4] (by decide +kernel) (by decide +kernel)
set_option maxRecDepth 20000 in
theorem gX11_isShore_X11_isWithin : GoodIn wsX11_isShore (va_wsS RX11 91 yX11_isWithin wsX11_isWithin) := goodIn_app (goodIn_of _ (by decide +kernel)) ggX11_isShore_X11_isWithin
theorem dX11_isShore_0 : decode cX11_isShore 0 = .ok (.iload_n 0, 1) := by decide +kernel
theorem dX11_isShore_1 : decode cX11_isShore 1 = .ok (.iconst 0, 1) := by decide +kernel
theorem dX11_isShore_2 : decode cX11_isShore 2 = .ok (.iconst 1, 1) := by decide +kernel
theorem dX11_isShore_3 : decode cX11_isShore 3 = .ok (.invokestatic 91, 3) := by decide +kernel
theorem dX11_isShore_6 : decode cX11_isShore 6 = .ok (.ireturn, 1) := by decide +kernel
set_option maxRecDepth 20000 in
theorem ggX11_isDeckTrack_X11_isWithin : GoodIn wsX11_isDeckTrack wsX11_isWithin := goodIn_r _ [4] (by decide +kernel) (by decide +kernel)
set_option maxRecDepth 20000 in
theorem gX11_isDeckTrack_X11_isWithin : GoodIn wsX11_isDeckTrack (va_wsS RX11 91 yX11_isWithin wsX11_isWithin) := goodIn_app (goodIn_of _ (by decide +kernel)) ggX11_isDeckTrack_X11_isWithin
theorem dX11_isDeckTrack_0 : decode cX11_isDeckTrack 0 = .ok (.iload_n 0, 1) := by decide +kernel
theorem dX11_isDeckTrack_1 : decode cX11_isDeckTrack 1 = .ok (.iconst 0, 1) := by decide +kernel
theorem dX11_isDeckTrack_2 : decode cX11_isDeckTrack 2 = .ok (.iconst 3, 1) := by decide +kernel
theorem dX11_isDeckTrack_3 : decode cX11_isDeckTrack 3 = .ok (.invokestatic 91, 3) := by decide +kernel
theorem dX11_isDeckTrack_6 : decode cX11_isDeckTrack 6 = .ok (.ireturn, 1) := by decide +kernel
theorem dX11_numberOf_0 : decode cX11_numberOf 0 = .ok (.aload_n 0, 1) := by decide +kernel
theorem dX11_numberOf_1 : decode cX11_numberOf 1 = .ok (.ifnonnull 7, 3) := by decide +kernel
theorem dX11_numberOf_4 : decode cX11_numberOf 4 = .ok (.iconst (-1), 1) := by decide +kernel
theorem dX11_numberOf_5 : decode cX11_numberOf 5 = .ok (.goto 7, 3) := by decide +kernel
theorem dX11_numberOf_12 : decode cX11_numberOf 12 = .ok (.ireturn, 1) := by decide +kernel
set_option maxRecDepth 20000 in
theorem ggX11_canBeTold_X11_isWithin : GoodIn wsX11_canBeTold wsX11_isWithin := goodIn_r _ [5] (by decide +kernel) (by decide +kernel)
set_option maxRecDepth 20000 in
theorem gX11_canBeTold_X11_isWithin : GoodIn wsX11_canBeTold (va_wsS RX11 91 yX11_isWithin wsX11_isWithin) := goodIn_app (goodIn_of _ (by decide +kernel)) ggX11_canBeTold_X11_isWithin
theorem dX11_canBeTold_0 : decode cX11_canBeTold 0 = .ok (.iload_n 1, 1) := by decide +kernel
theorem dX11_canBeTold_1 : decode cX11_canBeTold 1 = .ok (.aload_n 0, 1) := by decide +kernel
theorem dX11_canBeTold_2 : decode cX11_canBeTold 2 = .ok (.getfield 67, 3) := by decide +kernel
theorem dX11_canBeTold_5 : decode cX11_canBeTold 5 = .ok (.sipush 5000, 3) := by decide +kernel
theorem dX11_canBeTold_8 : decode cX11_canBeTold 8 = .ok (.invokestatic 91, 3) := by decide +kernel
theorem dX11_canBeTold_11 : decode cX11_canBeTold 11 = .ok (.ireturn, 1) := by decide +kernel
set_option maxRecDepth 20000 in
theorem ggX11_yardRow_X11_isShore : GoodIn wsX11_yardRow wsX11_isShore := goodIn_r _ [6, 7, 8, 5, 9] (by decide +kernel) (by decide +kernel)
set_option maxRecDepth 20000 in
theorem gX11_yardRow_X11_isShore : GoodIn wsX11_yardRow (va_wsS RX11 134 yX11_isShore wsX11_isShore) := goodIn_app (goodIn_of _ (by decide +kernel)) ggX11_yardRow_X11_isShore
set_option maxRecDepth 20000 in
theorem ggX11_yardRow_X11_isWithin : GoodIn wsX11_yardRow wsX11_isWithin := goodIn_r _ [9] (by decide +kernel) (by decide +kernel)
set_option maxRecDepth 20000 in
theorem gX11_yardRow_X11_isWithin : GoodIn wsX11_yardRow (va_wsS RX11 91 yX11_isWithin wsX11_isWithin) := goodIn_app (goodIn_of _ (by decide +kernel)) ggX11_yardRow_X11_isWithin
theorem dX11_yardRow_0 : decode cX11_yardRow 0 = .ok (.iload_n 1, 1) := by decide +kernel
theorem dX11_yardRow_1 : decode cX11_yardRow 1 = .ok (.invokestatic 134, 3) := by decide +kernel
theorem dX11_yardRow_4 : decode cX11_yardRow 4 = .ok (.ifCond .eq 12, 3) := by decide +kernel
theorem dX11_yardRow_7 : decode cX11_yardRow 7 = .ok (.iload_n 2, 1) := by decide +kernel
theorem dX11_yardRow_8 : decode cX11_yardRow 8 = .ok (.iconst 0, 1) := by decide +kernel
theorem dX11_yardRow_9 : decode cX11_yardRow 9 = .ok (.iconst 2, 1) := by decide +kernel
theorem dX11_yardRow_10 : decode cX11_yardRow 10 = .ok (.invokestatic 91, 3) := by decide +kernel
theorem dX11_yardRow_13 : decode cX11_yardRow 13 = .ok (.ifCond .ne 5, 3) := by decide +kernel
theorem dX11_yardRow_16 : decode cX11_yardRow 16 = .ok (.aconst_null, 1) := by decide +kernel
theorem dX11_yardRow_17 : decode cX11_yardRow 17 = .ok (.areturn, 1) := by decide +kernel
theorem dX11_yardRow_18 : decode cX11_yardRow 18 = .ok (.aload_n 0, 1) := by decide +kernel
theorem dX11_yardRow_19 : decode cX11_yardRow 19 = .ok (.getfield 10, 3) := by decide +kernel
theorem dX11_yardRow_22 : decode cX11_yardRow 22 = .ok (.iload_n 1, 1) := by decide +kernel
theorem dX11_yardRow_23 : decode cX11_yardRow 23 = .ok (.aaload, 1) := by decide +kernel
theorem dX11_yardRow_24 : decode cX11_yardRow 24 = .ok (.getfield 302, 3) := by decide +kernel
theorem dX11_yardRow_27 : decode cX11_yardRow 27 = .ok (.iload_n 2, 1) := by decide +kernel
theorem dX11_yardRow_28 : decode cX11_yardRow 28 = .ok (.aaload, 1) := by decide +kernel
theorem dX11_yardRow_29 : decode cX11_yardRow 29 = .ok (.areturn, 1) := by decide +kernel
set_option maxRecDepth 20000 in
theorem ggX11_canBeLoaded_X11_yardRow : GoodIn wsX11_canBeLoaded wsX11_yardRow := goodIn_r _ [11, 12, 13, 14, 15, 10, 16, 17, 18, 19, 20, 21, 22, 23, 24, 25, 26, 27, 28, 29, 30, 31, 32, 33, 34, 35, 36, 37, 41, 42, 43] (by decide +kernel) (by decide +kernel)
set_option maxRecDepth 20000 in
theorem gX11_canBeLoaded_X11_yardRow : GoodIn wsX11_canBeLoaded (wsV RX11 110 RX11 yX11_yardRow wsX11_yardRow) := goodIn_app (goodIn_of _ (by decide +kernel)) ggX11_canBeLoaded_X11_yardRow
set_option maxRecDepth 20000 in
theorem ggX11_canBeLoaded_X11_isWithin : GoodIn wsX11_canBeLoaded wsX11_isWithin := goodIn_r _ [19] (by decide +kernel) (by decide +kernel)
set_option maxRecDepth 20000 in
theorem gX11_canBeLoaded_X11_isWithin : GoodIn wsX11_canBeLoaded (va_wsS RX11 91 yX11_isWithin wsX11_isWithin) := goodIn_app (goodIn_of _ (by decide +kernel)) ggX11_canBeLoaded_X11_isWithin
theorem dX11_canBeLoaded_0 : decode cX11_canBeLoaded 0 = .ok (.aload_n 0, 1) := by decide +kernel
theorem dX11_canBeLoaded_1 : decode cX11_canBeLoaded 1 = .ok (.aload_n 0, 1) := by decide +kernel
theorem dX11_canBeLoaded_2 : decode cX11_canBeLoaded 2 = .ok (.getfield 70, 3) := by decide +kernel
theorem dX11_canBeLoaded_5 : decode cX11_canBeLoaded 5 = .ok (.iload_n 1, 1) := by decide +kernel
theorem dX11_canBeLoaded_6 : decode cX11_canBeLoaded 6 = .ok (.invokevirtual 110, 3) := by decide +kernel
theorem dX11_canBeLoaded_9 : decode cX11_canBeLoaded 9 = .ok (.astore_n 3, 1) := by decide +kernel
theorem dX11_canBeLoaded_10 : decode cX11_canBeLoaded 10 = .ok (.aload_n 3, 1) := by decide +kernel
theorem dX11_canBeLoaded_11 : decode cX11_canBeLoaded 11 = .ok (.ifnull 24, 3) := by decide +kernel
theorem dX11_canBeLoaded_14 : decode cX11_canBeLoaded 14 = .ok (.iload_n 2, 1) := by decide +kernel
theorem dX11_canBeLoaded_15 : decode cX11_canBeLoaded 15 = .ok (.iconst 0, 1) := by decide +kernel
theorem dX11_canBeLoaded_16 : decode cX11_canBeLoaded 16 = .ok (.bipush 6, 2) := by decide +kernel
theorem dX11_canBeLoaded_18 : decode cX11_canBeLoaded 18 = .ok (.aload_n 3, 1) := by decide +kernel
theorem dX11_canBeLoaded_19 : decode cX11_canBeLoaded 19 = .ok (.getfield 303, 3) := by decide +kernel
theorem dX11_canBeLoaded_22 : decode cX11_canBeLoaded 22 = .ok (.invokestatic 304, 3) := by decide +kernel
theorem dX11_canBeLoaded_25 : decode cX11_canBeLoaded 25 = .ok (.invokestatic 91, 3) := by decide +kernel
theorem dX11_canBeLoaded_28 : decode cX11_canBeLoaded 28 = .ok (.ifCond .eq 7, 3) := by decide +kernel
theorem dX11_canBeLoaded_31 : decode cX11_canBeLoaded 31 = .ok (.iconst 1, 1) := by decide +kernel
theorem dX11_canBeLoaded_32 : decode cX11_canBeLoaded 32 = .ok (.goto 4, 3) := by decide +kernel
theorem dX11_canBeLoaded_35 : decode cX11_canBeLoaded 35 = .ok (.iconst 0, 1) := by decide +kernel
theorem dX11_canBeLoaded_36 : decode cX11_canBeLoaded 36 = .ok (.ireturn, 1) := by decide +kernel
set_option maxRecDepth 20000 in
theorem ggX11_rampIsOpen_X6_hasValueIn : GoodIn wsX11_rampIsOpen wsX6_hasValueIn := goodIn_r _ [14, 15, 16, 17, 61, 62, 63, 64] (by decide +kernel) (by decide +kernel)
set_option maxRecDepth 20000 in
theorem gX11_rampIsOpen_X6_hasValueIn : GoodIn wsX11_rampIsOpen (wsV RX11 307 RX6 yX6_hasValueIn wsX6_hasValueIn) := goodIn_app (goodIn_of _ (by decide +kernel)) ggX11_rampIsOpen_X6_hasValueIn
theorem dX11_rampIsOpen_0 : decode cX11_rampIsOpen 0 = .ok (.aload_n 0, 1) := by decide +kernel
theorem dX11_rampIsOpen_1 : decode cX11_rampIsOpen 1 = .ok (.getfield 10, 3) := by decide +kernel
theorem dX11_rampIsOpen_4 : decode cX11_rampIsOpen 4 = .ok (.iload_n 1, 1) := by decide +kernel
theorem dX11_rampIsOpen_5 : decode cX11_rampIsOpen 5 = .ok (.aaload, 1) := by decide +kernel
theorem dX11_rampIsOpen_6 : decode cX11_rampIsOpen 6 = .ok (.getfield 141, 3) := by decide +kernel
theorem dX11_rampIsOpen_9 : decode cX11_rampIsOpen 9 = .ok (.astore_n 2, 1) := by decide +kernel
theorem dX11_rampIsOpen_10 : decode cX11_rampIsOpen 10 = .ok (.aload_n 0, 1) := by decide +kernel
theorem dX11_rampIsOpen_11 : decode cX11_rampIsOpen 11 = .ok (.getfield 10, 3) := by decide +kernel
theorem dX11_rampIsOpen_14 : decode cX11_rampIsOpen 14 = .ok (.iload_n 1, 1) := by decide +kernel
theorem dX11_rampIsOpen_15 : decode cX11_rampIsOpen 15 = .ok (.aaload, 1) := by decide +kernel
theorem dX11_rampIsOpen_16 : decode cX11_rampIsOpen 16 = .ok (.getfield 150, 3) := by decide +kernel
theorem dX11_rampIsOpen_19 : decode cX11_rampIsOpen 19 = .ok (.ifCond .ne 14, 3) := by decide +kernel
theorem dX11_rampIsOpen_22 : decode cX11_rampIsOpen 22 = .ok (.aload_n 2, 1) := by decide +kernel
theorem dX11_rampIsOpen_23 : decode cX11_rampIsOpen 23 = .ok (.aload_n 0, 1) := by decide +kernel
theorem dX11_rampIsOpen_24 : decode cX11_rampIsOpen 24 = .ok (.getfield 67, 3) := by decide +kernel
theorem dX11_rampIsOpen_27 : decode cX11_rampIsOpen 27 = .ok (.invokevirtual 307, 3) := by decide +kernel
theorem dX11_rampIsOpen_30 : decode cX11_rampIsOpen 30 = .ok (.ifCond .ne 5, 3) := by decide +kernel
theorem dX11_rampIsOpen_33 : decode cX11_rampIsOpen 33 = .ok (.iconst 0, 1) := by decide +kernel
theorem dX11_rampIsOpen_34 : decode cX11_rampIsOpen 34 = .ok (.ireturn, 1) := by decide +kernel
set_option maxRecDepth 20000 in
theorem ggX11_letTickGo_X11_causeAt : GoodIn wsX11_letTickGo wsX11_causeAt := goodIn_r _ [13, 14, 6, 15, 16, 17, 12, 18, 19, 20, 21, 5, 22, 23, 24, 25, 26, 27, 28, 29, 30, 31, 32, 33, 34, 35, 36, 37, 38, 39, 40, 41, 42, 68, 69, 70, 71, 72, 73, 74, 75, 76, 77, 78, 79, 80, 81, 82, 83, 84, 85, 98, 99, 100, 101, 102, 103, 104, 105, 106, 107, 108, 109, 110, 111, 112, 113, 114, 115, 116] (by decide +kernel) (by decide +kernel)
set_option maxRecDepth 20000 in
theorem gX11_letTickGo_X11_causeAt : GoodIn wsX11_letTickGo (wsV RX11 310 RX11 yX11_causeAt wsX11_causeAt) := goodIn_app (goodIn_of _ (by decide +kernel)) ggX11_letTickGo_X11_causeAt
set_option maxRecDepth 20000 in
theorem ggX11_letTickGo_X11_agreementInForce : GoodIn wsX11_letTickGo wsX11_agreementInForce := goodIn_r _ [46, 47, 5, 48, 49, 34, 35, 36, 29, 37, 38, 31, 39, 27, 28, 30, 32, 33, 40, 41, 12, 42, 68, 69, 70, 71, 72, 73, 74, 75, 76, 77, 78, 79, 80, 81, 82, 83, 84, 85, 113, 114, 115, 116] (by decide +kernel) (by decide +kernel)
set_option maxRecDepth 20000 in
theorem gX11_letTickGo_X11_agreementInForce : GoodIn wsX11_letTickGo (wsV RX11 313 RX11 yX11_agreementInForce wsX11_agreementInForce) := goodIn_app (goodIn_of _ (by decide +kernel)) ggX11_letTickGo_X11_agreementInForce
theorem dX11_letTickGo_0 : decode cX11_letTickGo 0 = .ok (.aload_n 0, 1) := by decide +kernel
theorem dX11_letTickGo_1 : decode cX11_letTickGo 1 = .ok (.iconst 0, 1) := by decide +kernel
theorem dX11_letTickGo_2 : decode cX11_letTickGo 2 = .ok (.invokevirtual 310, 3) := by decide +kernel
theorem dX11_letTickGo_5 : decode cX11_letTickGo 5 = .ok (.istore_n 1, 1) := by decide +kernel
theorem dX11_letTickGo_6 : decode cX11_letTickGo 6 = .ok (.aload_n 0, 1) := by decide +kernel
theorem dX11_letTickGo_7 : decode cX11_letTickGo 7 = .ok (.iconst 1, 1) := by decide +kernel
theorem dX11_letTickGo_8 : decode cX11_letTickGo 8 = .ok (.invokevirtual 310, 3) := by decide +kernel
theorem dX11_letTickGo_11 : decode cX11_letTickGo 11 = .ok (.istore_n 2, 1) := by decide +kernel
theorem dX11_letTickGo_12 : decode cX11_letTickGo 12 = .ok (.aload_n 0, 1) := by decide +kernel
theorem dX11_letTickGo_13 : decode cX11_letTickGo 13 = .ok (.invokevirtual 313, 3) := by decide +kernel
theorem dX11_letTickGo_16 : decode cX11_letTickGo 16 = .ok (.astore_n 3, 1) := by decide +kernel
theorem dX11_letTickGo_17 : decode cX11_letTickGo 17 = .ok (.iconst 0, 1) := by decide +kernel
theorem dX11_letTickGo_18 : decode cX11_letTickGo 18 = .ok (.istore 4, 2) := by decide +kernel
theorem dX11_letTickGo_20 : decode cX11_letTickGo 20 = .ok (.iload 4, 2) := by decide +kernel
theorem dX11_letTickGo_22 : decode cX11_letTickGo 22 = .ok (.aload_n 0, 1) := by decide +kernel
theorem dX11_letTickGo_23 : decode cX11_letTickGo 23 = .ok (.getfield 63, 3) := by decide +kernel
theorem dX11_letTickGo_26 : decode cX11_letTickGo 26 = .ok (.if_icmp .ge 50, 3) := by decide +kernel
theorem dX11_letTickGo_76 : decode cX11_letTickGo 76 = .ok (.aload_n 0, 1) := by decide +kernel
theorem dX11_letTickGo_77 : decode cX11_letTickGo 77 = .ok (.dup, 1) := by decide +kernel
theorem dX11_letTickGo_78 : decode cX11_letTickGo 78 = .ok (.getfield 67, 3) := by decide +kernel
theorem dX11_letTickGo_81 : decode cX11_letTickGo 81 = .ok (.iconst 1, 1) := by decide +kernel
theorem dX11_letTickGo_82 : decode cX11_letTickGo 82 = .ok (.iadd, 1) := by decide +kernel
theorem dX11_letTickGo_83 : decode cX11_letTickGo 83 = .ok (.putfield 67, 3) := by decide +kernel
theorem dX11_letTickGo_86 : decode cX11_letTickGo 86 = .ok (.aload_n 0, 1) := by decide +kernel
theorem dX11_letTickGo_87 : decode cX11_letTickGo 87 = .ok (.getfield 70, 3) := by decide +kernel
theorem dX11_letTickGo_90 : decode cX11_letTickGo 90 = .ok (.iconst 2, 1) := by decide +kernel
theorem dX11_letTickGo_91 : decode cX11_letTickGo 91 = .ok (.if_icmp .ne 27, 3) := by decide +kernel
theorem dX11_letTickGo_118 : decode cX11_letTickGo 118 = .ok (.return_, 1) := by decide +kernel
set_option maxRecDepth 20000 in
theorem ggX11_causeAt_X11_rampIsOpen : GoodIn wsX11_causeAt wsX11_rampIsOpen := goodIn_r _ [7, 8, 9, 10, 11, 2, 12, 13, 14, 15, 16, 17, 18, 19, 20, 21, 22, 23, 24, 25, 26, 27, 28, 29, 30, 31, 6, 32, 33, 34, 35, 36, 37, 38, 39, 40, 41, 42, 43, 44, 45, 46, 47, 48, 49, 50, 51, 52, 53, 54, 55, 56, 57, 58, 59, 60, 61, 62, 63, 64, 65, 66, 67, 68, 69] (by decide +kernel) (by decide +kernel)
set_option maxRecDepth 20000 in
theorem gX11_causeAt_X11_rampIsOpen : GoodIn wsX11_causeAt (wsV RX11 183 RX11 yX11_rampIsOpen wsX11_rampIsOpen) := goodIn_app (goodIn_of _ (by decide +kernel)) ggX11_causeAt_X11_rampIsOpen
theorem dX11_causeAt_0 : decode cX11_causeAt 0 = .ok (.aload_n 0, 1) := by decide +kernel
theorem dX11_causeAt_1 : decode cX11_causeAt 1 = .ok (.getfield 82, 3) := by decide +kernel
theorem dX11_causeAt_4 : decode cX11_causeAt 4 = .ok (.iconst 5, 1) := by decide +kernel
theorem dX11_causeAt_5 : decode cX11_causeAt 5 = .ok (.if_icmp .ne 5, 3) := by decide +kernel
theorem dX11_causeAt_10 : decode cX11_causeAt 10 = .ok (.aload_n 0, 1) := by decide +kernel
theorem dX11_causeAt_11 : decode cX11_causeAt 11 = .ok (.iload_n 1, 1) := by decide +kernel
theorem dX11_causeAt_12 : decode cX11_causeAt 12 = .ok (.invokevirtual 183, 3) := by decide +kernel
theorem dX11_causeAt_15 : decode cX11_causeAt 15 = .ok (.ifCond .ne 5, 3) := by decide +kernel
theorem dX11_causeAt_18 : decode cX11_causeAt 18 = .ok (.iconst 1, 1) := by decide +kernel
theorem dX11_causeAt_19 : decode cX11_causeAt 19 = .ok (.ireturn, 1) := by decide +kernel
set_option maxRecDepth 20000 in
theorem ggX11_agreementInForce_X6_valueIn : GoodIn wsX11_agreementInForce wsX6_valueIn := goodIn_r _ [9, 10, 11, 12, 13, 14, 8, 15, 16, 17, 40, 41, 42, 43] (by decide +kernel) (by decide +kernel)
set_option maxRecDepth 20000 in
theorem gX11_agreementInForce_X6_valueIn : GoodIn wsX11_agreementInForce (wsV RX11 292 RX6 yX6_valueIn wsX6_valueIn) := goodIn_app (goodIn_of _ (by decide +kernel)) ggX11_agreementInForce_X6_valueIn
set_option maxRecDepth 20000 in
theorem ggX11_agreementInForce_X11_isWithin : GoodIn wsX11_agreementInForce wsX11_isWithin := goodIn_r _ [21] (by decide +kernel) (by decide +kernel)
set_option maxRecDepth 20000 in
theorem gX11_agreementInForce_X11_isWithin : GoodIn wsX11_agreementInForce (va_wsS RX11 91 yX11_isWithin wsX11_isWithin) := goodIn_app (goodIn_of _ (by decide +kernel)) ggX11_agreementInForce_X11_isWithin
theorem dX11_agreementInForce_0 : decode cX11_agreementInForce 0 = .ok (.aload_n 0, 1) := by decide +kernel
theorem dX11_agreementInForce_1 : decode cX11_agreementInForce 1 = .ok (.getfield 47, 3) := by decide +kernel
theorem dX11_agreementInForce_4 : decode cX11_agreementInForce 4 = .ok (.aload_n 0, 1) := by decide +kernel
theorem dX11_agreementInForce_5 : decode cX11_agreementInForce 5 = .ok (.getfield 67, 3) := by decide +kernel
theorem dX11_agreementInForce_8 : decode cX11_agreementInForce 8 = .ok (.iconst (-1), 1) := by decide +kernel
theorem dX11_agreementInForce_9 : decode cX11_agreementInForce 9 = .ok (.invokevirtual 292, 3) := by decide +kernel
theorem dX11_agreementInForce_12 : decode cX11_agreementInForce 12 = .ok (.istore_n 1, 1) := by decide +kernel
theorem dX11_agreementInForce_13 : decode cX11_agreementInForce 13 = .ok (.iload_n 1, 1) := by decide +kernel
theorem dX11_agreementInForce_14 : decode cX11_agreementInForce 14 = .ok (.iconst 0, 1) := by decide +kernel
theorem dX11_agreementInForce_15 : decode cX11_agreementInForce 15 = .ok (.aload_n 0, 1) := by decide +kernel
theorem dX11_agreementInForce_16 : decode cX11_agreementInForce 16 = .ok (.getfield 47, 3) := by decide +kernel
theorem dX11_agreementInForce_19 : decode cX11_agreementInForce 19 = .ok (.getfield 144, 3) := by decide +kernel
theorem dX11_agreementInForce_22 : decode cX11_agreementInForce 22 = .ok (.iconst 1, 1) := by decide +kernel
theorem dX11_agreementInForce_23 : decode cX11_agreementInForce 23 = .ok (.isub, 1) := by decide +kernel
theorem dX11_agreementInForce_24 : decode cX11_agreementInForce 24 = .ok (.invokestatic 91, 3) := by decide +kernel
theorem dX11_agreementInForce_27 : decode cX11_agreementInForce 27 = .ok (.ifCond .eq 12, 3) := by decide +kernel
theorem dX11_agreementInForce_39 : decode cX11_agreementInForce 39 = .ok (.aconst_null, 1) := by decide +kernel
theorem dX11_agreementInForce_40 : decode cX11_agreementInForce 40 = .ok (.areturn, 1) := by decide +kernel
theorem dX11_allPaidBy_0 : decode cX11_allPaidBy 0 = .ok (.lconst 0, 1) := by decide +kernel
theorem dX11_allPaidBy_1 : decode cX11_allPaidBy 1 = .ok (.lstore_n 2, 1) := by decide +kernel
theorem dX11_allPaidBy_2 : decode cX11_allPaidBy 2 = .ok (.iconst 0, 1) := by decide +kernel
theorem dX11_allPaidBy_3 : decode cX11_allPaidBy 3 = .ok (.istore 4, 2) := by decide +kernel
theorem dX11_allPaidBy_5 : decode cX11_allPaidBy 5 = .ok (.iload 4, 2) := by decide +kernel
theorem dX11_allPaidBy_7 : decode cX11_allPaidBy 7 = .ok (.aload_n 0, 1) := by decide +kernel
theorem dX11_allPaidBy_8 : decode cX11_allPaidBy 8 = .ok (.getfield 63, 3) := by decide +kernel
theorem dX11_allPaidBy_11 : decode cX11_allPaidBy 11 = .ok (.if_icmp .ge 45, 3) := by decide +kernel
theorem dX11_allPaidBy_56 : decode cX11_allPaidBy 56 = .ok (.lload_n 2, 1) := by decide +kernel
theorem dX11_allPaidBy_57 : decode cX11_allPaidBy 57 = .ok (.lreturn, 1) := by decide +kernel
set_option maxRecDepth 20000 in
theorem ggX11_bestEmptying_X3_init : GoodIn wsX11_bestEmptying wsX3_init := goodIn_r _ [8, 9, 10, 11, 12, 13, 14, 15, 16, 17, 18, 19, 98, 99, 100, 101, 102, 103, 104] (by decide +kernel) (by decide +kernel)
set_option maxRecDepth 20000 in
theorem gX11_bestEmptying_X3_init_n329 : GoodIn wsX11_bestEmptying (wsX3_init) := ggX11_bestEmptying_X3_init
set_option maxRecDepth 20000 in
theorem ggX11_bestEmptying_X3_findBest : GoodIn wsX11_bestEmptying wsX3_findBest := goodIn_r _ [23, 24, 25, 16, 26, 27, 19, 28, 12, 29, 13, 15, 17, 30, 31, 32, 4, 33, 18, 34, 35, 36, 37, 38, 39, 40, 41, 42, 43, 44, 45, 46, 47, 48, 49, 50, 51, 52, 53, 54, 55, 56, 57, 58, 59, 60, 61, 62, 63, 64, 65, 66, 67, 68, 69, 70, 71, 72, 73, 74, 75, 76, 77, 78, 79, 105, 106, 107, 108, 109, 110, 111, 112, 113, 114, 115, 116, 98, 99, 100, 101, 102, 103, 104, 117, 118, 119, 120, 121, 122, 123, 124, 125, 126, 127, 128, 129, 130, 131] (by decide +kernel) (by decide +kernel)
set_option maxRecDepth 20000 in
theorem gX11_bestEmptying_X3_findBest : GoodIn wsX11_bestEmptying (wsV RX11 330 RX3 yX3_findBest wsX3_findBest) := goodIn_app (goodIn_of _ (by decide +kernel)) ggX11_bestEmptying_X3_findBest
theorem dX11_bestEmptying_0 : decode cX11_bestEmptying 0 = .ok (.aload_n 0, 1) := by decide +kernel
theorem dX11_bestEmptying_1 : decode cX11_bestEmptying 1 = .ok (.getfield 55, 3) := by decide +kernel
theorem dX11_bestEmptying_4 : decode cX11_bestEmptying 4 = .ok (.ifnonnull 19, 3) := by decide +kernel
theorem dX11_bestEmptying_7 : decode cX11_bestEmptying 7 = .ok (.aload_n 0, 1) := by decide +kernel
theorem dX11_bestEmptying_8 : decode cX11_bestEmptying 8 = .ok (.new 262, 3) := by decide +kernel
theorem dX11_bestEmptying_11 : decode cX11_bestEmptying 11 = .ok (.dup, 1) := by decide +kernel
theorem dX11_bestEmptying_12 : decode cX11_bestEmptying 12 = .ok (.invokespecial 329, 3) := by decide +kernel
theorem dX11_bestEmptying_15 : decode cX11_bestEmptying 15 = .ok (.putfield 55, 3) := by decide +kernel
theorem dX11_bestEmptying_18 : decode cX11_bestEmptying 18 = .ok (.aload_n 0, 1) := by decide +kernel
theorem dX11_bestEmptying_19 : decode cX11_bestEmptying 19 = .ok (.iconst 0, 1) := by decide +kernel
theorem dX11_bestEmptying_20 : decode cX11_bestEmptying 20 = .ok (.putfield 59, 3) := by decide +kernel
theorem dX11_bestEmptying_23 : decode cX11_bestEmptying 23 = .ok (.aload_n 0, 1) := by decide +kernel
theorem dX11_bestEmptying_24 : decode cX11_bestEmptying 24 = .ok (.getfield 59, 3) := by decide +kernel
theorem dX11_bestEmptying_27 : decode cX11_bestEmptying 27 = .ok (.ifCond .ne 19, 3) := by decide +kernel
theorem dX11_bestEmptying_30 : decode cX11_bestEmptying 30 = .ok (.aload_n 0, 1) := by decide +kernel
theorem dX11_bestEmptying_31 : decode cX11_bestEmptying 31 = .ok (.getfield 55, 3) := by decide +kernel
theorem dX11_bestEmptying_34 : decode cX11_bestEmptying 34 = .ok (.aload_n 0, 1) := by decide +kernel
theorem dX11_bestEmptying_35 : decode cX11_bestEmptying 35 = .ok (.getfield 19, 3) := by decide +kernel
theorem dX11_bestEmptying_38 : decode cX11_bestEmptying 38 = .ok (.invokevirtual 330, 3) := by decide +kernel
theorem dX11_bestEmptying_41 : decode cX11_bestEmptying 41 = .ok (.aload_n 0, 1) := by decide +kernel
theorem dX11_bestEmptying_42 : decode cX11_bestEmptying 42 = .ok (.iconst 1, 1) := by decide +kernel
theorem dX11_bestEmptying_43 : decode cX11_bestEmptying 43 = .ok (.putfield 59, 3) := by decide +kernel
theorem dX11_bestEmptying_46 : decode cX11_bestEmptying 46 = .ok (.aload_n 0, 1) := by decide +kernel
theorem dX11_bestEmptying_47 : decode cX11_bestEmptying 47 = .ok (.getfield 55, 3) := by decide +kernel
theorem dX11_bestEmptying_50 : decode cX11_bestEmptying 50 = .ok (.areturn, 1) := by decide +kernel
theorem dX12_thrown_0 : decode cX12_thrown 0 = .ok (.aload_n 0, 1) := by decide +kernel
theorem dX12_thrown_1 : decode cX12_thrown 1 = .ok (.getfield 1, 3) := by decide +kernel
theorem dX12_thrown_4 : decode cX12_thrown 4 = .ok (.ireturn, 1) := by decide +kernel
theorem dX12_within_0 : decode cX12_within 0 = .ok (.iload_n 0, 1) := by decide +kernel
theorem dX12_within_1 : decode cX12_within 1 = .ok (.iload_n 1, 1) := by decide +kernel
theorem dX12_within_2 : decode cX12_within 2 = .ok (.if_icmp .lt 12, 3) := by decide +kernel
theorem dX12_within_5 : decode cX12_within 5 = .ok (.iload_n 0, 1) := by decide +kernel
theorem dX12_within_6 : decode cX12_within 6 = .ok (.iload_n 2, 1) := by decide +kernel
theorem dX12_within_7 : decode cX12_within 7 = .ok (.if_icmp .gt 7, 3) := by decide +kernel
theorem dX12_within_10 : decode cX12_within 10 = .ok (.iconst 1, 1) := by decide +kernel
theorem dX12_within_11 : decode cX12_within 11 = .ok (.goto 4, 3) := by decide +kernel
theorem dX12_within_14 : decode cX12_within 14 = .ok (.iconst 0, 1) := by decide +kernel
theorem dX12_within_15 : decode cX12_within 15 = .ok (.ireturn, 1) := by decide +kernel
theorem dX12_init_0 : decode cX12_init 0 = .ok (.aload_n 0, 1) := by decide +kernel
theorem dX12_init_1 : decode cX12_init 1 = .ok (.invokespecial 7, 3) := by decide +kernel
theorem dX12_init_4 : decode cX12_init 4 = .ok (.aload_n 0, 1) := by decide +kernel
theorem dX12_init_5 : decode cX12_init 5 = .ok (.bipush 100, 2) := by decide +kernel
theorem dX12_init_7 : decode cX12_init 7 = .ok (.putfield 13, 3) := by decide +kernel
theorem dX12_init_10 : decode cX12_init 10 = .ok (.aload_n 0, 1) := by decide +kernel
theorem dX12_init_11 : decode cX12_init 11 = .ok (.sipush 200, 3) := by decide +kernel
theorem dX12_init_14 : decode cX12_init 14 = .ok (.putfield 16, 3) := by decide +kernel
theorem dX12_init_17 : decode cX12_init 17 = .ok (.aload_n 0, 1) := by decide +kernel
theorem dX12_init_18 : decode cX12_init 18 = .ok (.iconst 5, 1) := by decide +kernel
theorem dX12_init_19 : decode cX12_init 19 = .ok (.putfield 19, 3) := by decide +kernel
theorem dX12_init_22 : decode cX12_init 22 = .ok (.aload_n 0, 1) := by decide +kernel
theorem dX12_init_23 : decode cX12_init 23 = .ok (.bipush 100, 2) := by decide +kernel
theorem dX12_init_25 : decode cX12_init 25 = .ok (.putfield 22, 3) := by decide +kernel
theorem dX12_init_28 : decode cX12_init 28 = .ok (.aload_n 0, 1) := by decide +kernel
theorem dX12_init_29 : decode cX12_init 29 = .ok (.iconst 2, 1) := by decide +kernel
theorem dX12_init_30 : decode cX12_init 30 = .ok (.newarray .boolean, 2) := by decide +kernel
theorem dX12_init_32 : decode cX12_init 32 = .ok (.putfield 25, 3) := by decide +kernel
theorem dX12_init_35 : decode cX12_init 35 = .ok (.aload_n 0, 1) := by decide +kernel
theorem dX12_init_36 : decode cX12_init 36 = .ok (.bipush 100, 2) := by decide +kernel
theorem dX12_init_38 : decode cX12_init 38 = .ok (.newarray .int, 2) := by decide +kernel
theorem dX12_init_40 : decode cX12_init 40 = .ok (.putfield 29, 3) := by decide +kernel
theorem dX12_init_43 : decode cX12_init 43 = .ok (.aload_n 0, 1) := by decide +kernel
theorem dX12_init_44 : decode cX12_init 44 = .ok (.bipush 100, 2) := by decide +kernel
theorem dX12_init_46 : decode cX12_init 46 = .ok (.newarray .int, 2) := by decide +kernel
theorem dX12_init_48 : decode cX12_init 48 = .ok (.putfield 33, 3) := by decide +kernel
theorem dX12_init_51 : decode cX12_init 51 = .ok (.aload_n 0, 1) := by decide +kernel
theorem dX12_init_52 : decode cX12_init 52 = .ok (.bipush 100, 2) := by decide +kernel
theorem dX12_init_54 : decode cX12_init 54 = .ok (.newarray .int, 2) := by decide +kernel
theorem dX12_init_56 : decode cX12_init 56 = .ok (.putfield 36, 3) := by decide +kernel
theorem dX12_init_59 : decode cX12_init 59 = .ok (.aload_n 0, 1) := by decide +kernel
theorem dX12_init_60 : decode cX12_init 60 = .ok (.bipush 100, 2) := by decide +kernel
theorem dX12_init_62 : decode cX12_init 62 = .ok (.newarray .int, 2) := by decide +kernel
theorem dX12_init_64 : decode cX12_init 64 = .ok (.putfield 39, 3) := by decide +kernel
theorem dX12_init_67 : decode cX12_init 67 = .ok (.aload_n 0, 1) := by decide +kernel
theorem dX12_init_68 : decode cX12_init 68 = .ok (.bipush 100, 2) := by decide +kernel
theorem dX12_init_70 : decode cX12_init 70 = .ok (.newarray .boolean, 2) := by decide +kernel
theorem dX12_init_72 : decode cX12_init 72 = .ok (.putfield 42, 3) := by decide +kernel
theorem dX12_init_75 : decode cX12_init 75 = .ok (.aload_n 0, 1) := by decide +kernel
theorem dX12_init_76 : decode cX12_init 76 = .ok (.sipush 400, 3) := by decide +kernel
theorem dX12_init_79 : decode cX12_init 79 = .ok (.newarray .int, 2) := by decide +kernel
theorem dX12_init_81 : decode cX12_init 81 = .ok (.putfield 45, 3) := by decide +kernel
theorem dX12_init_84 : decode cX12_init 84 = .ok (.aload_n 0, 1) := by decide +kernel
theorem dX12_init_85 : decode cX12_init 85 = .ok (.bipush 100, 2) := by decide +kernel
theorem dX12_init_87 : decode cX12_init 87 = .ok (.newarray .long, 2) := by decide +kernel
theorem dX12_init_89 : decode cX12_init 89 = .ok (.putfield 48, 3) := by decide +kernel
theorem dX12_init_92 : decode cX12_init 92 = .ok (.aload_n 0, 1) := by decide +kernel
theorem dX12_init_93 : decode cX12_init 93 = .ok (.bipush 100, 2) := by decide +kernel
theorem dX12_init_95 : decode cX12_init 95 = .ok (.newarray .long, 2) := by decide +kernel
theorem dX12_init_97 : decode cX12_init 97 = .ok (.putfield 52, 3) := by decide +kernel
theorem dX12_init_100 : decode cX12_init 100 = .ok (.aload_n 0, 1) := by decide +kernel
theorem dX12_init_101 : decode cX12_init 101 = .ok (.sipush 1000, 3) := by decide +kernel
theorem dX12_init_104 : decode cX12_init 104 = .ok (.newarray .int, 2) := by decide +kernel
theorem dX12_init_106 : decode cX12_init 106 = .ok (.putfield 55, 3) := by decide +kernel
theorem dX12_init_109 : decode cX12_init 109 = .ok (.aload_n 0, 1) := by decide +kernel
theorem dX12_init_110 : decode cX12_init 110 = .ok (.bipush 10, 2) := by decide +kernel
theorem dX12_init_112 : decode cX12_init 112 = .ok (.newarray .int, 2) := by decide +kernel
theorem dX12_init_114 : decode cX12_init 114 = .ok (.putfield 58, 3) := by decide +kernel
theorem dX12_init_117 : decode cX12_init 117 = .ok (.aload_n 0, 1) := by decide +kernel
theorem dX12_init_118 : decode cX12_init 118 = .ok (.sipush 200, 3) := by decide +kernel
theorem dX12_init_121 : decode cX12_init 121 = .ok (.newarray .int, 2) := by decide +kernel
theorem dX12_init_123 : decode cX12_init 123 = .ok (.putfield 61, 3) := by decide +kernel
theorem dX12_init_126 : decode cX12_init 126 = .ok (.aload_n 0, 1) := by decide +kernel
theorem dX12_init_127 : decode cX12_init 127 = .ok (.sipush 200, 3) := by decide +kernel
theorem dX12_init_130 : decode cX12_init 130 = .ok (.newarray .int, 2) := by decide +kernel
theorem dX12_init_132 : decode cX12_init 132 = .ok (.putfield 64, 3) := by decide +kernel
theorem dX12_init_135 : decode cX12_init 135 = .ok (.aload_n 0, 1) := by decide +kernel
theorem dX12_init_136 : decode cX12_init 136 = .ok (.sipush 200, 3) := by decide +kernel
theorem dX12_init_139 : decode cX12_init 139 = .ok (.newarray .int, 2) := by decide +kernel
theorem dX12_init_141 : decode cX12_init 141 = .ok (.putfield 67, 3) := by decide +kernel
theorem dX12_init_144 : decode cX12_init 144 = .ok (.aload_n 0, 1) := by decide +kernel
theorem dX12_init_145 : decode cX12_init 145 = .ok (.bipush 21, 2) := by decide +kernel
theorem dX12_init_147 : decode cX12_init 147 = .ok (.newarray .int, 2) := by decide +kernel
theorem dX12_init_149 : decode cX12_init 149 = .ok (.putfield 70, 3) := by decide +kernel
theorem dX12_init_152 : decode cX12_init 152 = .ok (.aload_n 0, 1) := by decide +kernel
theorem dX12_init_153 : decode cX12_init 153 = .ok (.bipush 21, 2) := by decide +kernel
theorem dX12_init_155 : decode cX12_init 155 = .ok (.newarray .int, 2) := by decide +kernel
theorem dX12_init_157 : decode cX12_init 157 = .ok (.putfield 73, 3) := by decide +kernel
theorem dX12_init_160 : decode cX12_init 160 = .ok (.aload_n 0, 1) := by decide +kernel
theorem dX12_init_161 : decode cX12_init 161 = .ok (.bipush 84, 2) := by decide +kernel
theorem dX12_init_163 : decode cX12_init 163 = .ok (.newarray .int, 2) := by decide +kernel
theorem dX12_init_165 : decode cX12_init 165 = .ok (.putfield 76, 3) := by decide +kernel
theorem dX12_init_168 : decode cX12_init 168 = .ok (.aload_n 0, 1) := by decide +kernel
theorem dX12_init_169 : decode cX12_init 169 = .ok (.bipush 84, 2) := by decide +kernel
theorem dX12_init_171 : decode cX12_init 171 = .ok (.newarray .int, 2) := by decide +kernel
theorem dX12_init_173 : decode cX12_init 173 = .ok (.putfield 79, 3) := by decide +kernel
theorem dX12_init_176 : decode cX12_init 176 = .ok (.aload_n 0, 1) := by decide +kernel
theorem dX12_init_177 : decode cX12_init 177 = .ok (.sipush 300, 3) := by decide +kernel
theorem dX12_init_180 : decode cX12_init 180 = .ok (.newarray .byte, 2) := by decide +kernel
theorem dX12_init_182 : decode cX12_init 182 = .ok (.putfield 82, 3) := by decide +kernel
theorem dX12_init_185 : decode cX12_init 185 = .ok (.aload_n 0, 1) := by decide +kernel
theorem dX12_init_186 : decode cX12_init 186 = .ok (.iconst (-1), 1) := by decide +kernel
theorem dX12_init_187 : decode cX12_init 187 = .ok (.putfield 86, 3) := by decide +kernel
theorem dX12_init_190 : decode cX12_init 190 = .ok (.aload_n 0, 1) := by decide +kernel
theorem dX12_init_191 : decode cX12_init 191 = .ok (.iconst 3, 1) := by decide +kernel
theorem dX12_init_192 : decode cX12_init 192 = .ok (.newarray .int, 2) := by decide +kernel
theorem dX12_init_194 : decode cX12_init 194 = .ok (.putfield 89, 3) := by decide +kernel
theorem dX12_init_197 : decode cX12_init 197 = .ok (.aload_n 0, 1) := by decide +kernel
theorem dX12_init_198 : decode cX12_init 198 = .ok (.iconst 3, 1) := by decide +kernel
theorem dX12_init_199 : decode cX12_init 199 = .ok (.newarray .int, 2) := by decide +kernel
theorem dX12_init_201 : decode cX12_init 201 = .ok (.putfield 92, 3) := by decide +kernel
theorem dX12_init_204 : decode cX12_init 204 = .ok (.aload_n 0, 1) := by decide +kernel
theorem dX12_init_205 : decode cX12_init 205 = .ok (.bipush 6, 2) := by decide +kernel
theorem dX12_init_207 : decode cX12_init 207 = .ok (.newarray .int, 2) := by decide +kernel
theorem dX12_init_209 : decode cX12_init 209 = .ok (.putfield 95, 3) := by decide +kernel
theorem dX12_init_212 : decode cX12_init 212 = .ok (.aload_n 0, 1) := by decide +kernel
theorem dX12_init_213 : decode cX12_init 213 = .ok (.bipush 6, 2) := by decide +kernel
theorem dX12_init_215 : decode cX12_init 215 = .ok (.newarray .int, 2) := by decide +kernel
theorem dX12_init_217 : decode cX12_init 217 = .ok (.putfield 98, 3) := by decide +kernel
theorem dX12_init_220 : decode cX12_init 220 = .ok (.aload_n 0, 1) := by decide +kernel
theorem dX12_init_221 : decode cX12_init 221 = .ok (.bipush 6, 2) := by decide +kernel
theorem dX12_init_223 : decode cX12_init 223 = .ok (.newarray .int, 2) := by decide +kernel
theorem dX12_init_225 : decode cX12_init 225 = .ok (.putfield 101, 3) := by decide +kernel
theorem dX12_init_228 : decode cX12_init 228 = .ok (.aload_n 0, 1) := by decide +kernel
theorem dX12_init_229 : decode cX12_init 229 = .ok (.bipush 6, 2) := by decide +kernel
theorem dX12_init_231 : decode cX12_init 231 = .ok (.newarray .int, 2) := by decide +kernel
theorem dX12_init_233 : decode cX12_init 233 = .ok (.putfield 104, 3) := by decide +kernel
theorem dX12_init_236 : decode cX12_init 236 = .ok (.aload_n 0, 1) := by decide +kernel
theorem dX12_init_237 : decode cX12_init 237 = .ok (.bipush 6, 2) := by decide +kernel
theorem dX12_init_239 : decode cX12_init 239 = .ok (.newarray .int, 2) := by decide +kernel
theorem dX12_init_241 : decode cX12_init 241 = .ok (.putfield 107, 3) := by decide +kernel
theorem dX12_init_244 : decode cX12_init 244 = .ok (.aload_n 0, 1) := by decide +kernel
theorem dX12_init_245 : decode cX12_init 245 = .ok (.bipush 6, 2) := by decide +kernel
theorem dX12_init_247 : decode cX12_init 247 = .ok (.newarray .int, 2) := by decide +kernel
theorem dX12_init_249 : decode cX12_init 249 = .ok (.putfield 110, 3) := by decide +kernel
theorem dX12_init_252 : decode cX12_init 252 = .ok (.aload_n 0, 1) := by decide +kernel
theorem dX12_init_253 : decode cX12_init 253 = .ok (.sipush 14641, 3) := by decide +kernel
theorem dX12_init_256 : decode cX12_init 256 = .ok (.newarray .boolean, 2) := by decide +kernel
theorem dX12_init_258 : decode cX12_init 258 = .ok (.putfield 113, 3) := by decide +kernel
theorem dX12_init_261 : decode cX12_init 261 = .ok (.aload_n 0, 1) := by decide +kernel
theorem dX12_init_262 : decode cX12_init 262 = .ok (.sipush 14641, 3) := by decide +kernel
theorem dX12_init_265 : decode cX12_init 265 = .ok (.newarray .int, 2) := by decide +kernel
theorem dX12_init_267 : decode cX12_init 267 = .ok (.putfield 116, 3) := by decide +kernel
theorem dX12_init_270 : decode cX12_init 270 = .ok (.aload_n 0, 1) := by decide +kernel
theorem dX12_init_271 : decode cX12_init 271 = .ok (.iconst 4, 1) := by decide +kernel
theorem dX12_init_272 : decode cX12_init 272 = .ok (.newarray .int, 2) := by decide +kernel
theorem dX12_init_274 : decode cX12_init 274 = .ok (.putfield 119, 3) := by decide +kernel
theorem dX12_init_277 : decode cX12_init 277 = .ok (.return_, 1) := by decide +kernel
theorem dX12_yardRow_0 : decode cX12_yardRow 0 = .ok (.iconst 4, 1) := by decide +kernel
theorem dX12_yardRow_1 : decode cX12_yardRow 1 = .ok (.iconst 3, 1) := by decide +kernel
theorem dX12_yardRow_2 : decode cX12_yardRow 2 = .ok (.iload_n 0, 1) := by decide +kernel
theorem dX12_yardRow_3 : decode cX12_yardRow 3 = .ok (.imul, 1) := by decide +kernel
theorem dX12_yardRow_4 : decode cX12_yardRow 4 = .ok (.iadd, 1) := by decide +kernel
theorem dX12_yardRow_5 : decode cX12_yardRow 5 = .ok (.iload_n 1, 1) := by decide +kernel
theorem dX12_yardRow_6 : decode cX12_yardRow 6 = .ok (.iadd, 1) := by decide +kernel
theorem dX12_yardRow_7 : decode cX12_yardRow 7 = .ok (.ireturn, 1) := by decide +kernel
theorem dX12_used_0 : decode cX12_used 0 = .ok (.iconst 0, 1) := by decide +kernel
theorem dX12_used_1 : decode cX12_used 1 = .ok (.istore_n 2, 1) := by decide +kernel
theorem dX12_used_2 : decode cX12_used 2 = .ok (.iconst 0, 1) := by decide +kernel
theorem dX12_used_3 : decode cX12_used 3 = .ok (.istore_n 3, 1) := by decide +kernel
theorem dX12_used_4 : decode cX12_used 4 = .ok (.iload_n 3, 1) := by decide +kernel
theorem dX12_used_5 : decode cX12_used 5 = .ok (.aload_n 0, 1) := by decide +kernel
theorem dX12_used_6 : decode cX12_used 6 = .ok (.getfield 58, 3) := by decide +kernel
theorem dX12_used_9 : decode cX12_used 9 = .ok (.iload_n 1, 1) := by decide +kernel
theorem dX12_used_10 : decode cX12_used 10 = .ok (.iaload, 1) := by decide +kernel
theorem dX12_used_11 : decode cX12_used 11 = .ok (.if_icmp .ge 28, 3) := by decide +kernel
theorem dX12_used_39 : decode cX12_used 39 = .ok (.iload_n 2, 1) := by decide +kernel
theorem dX12_used_40 : decode cX12_used 40 = .ok (.ireturn, 1) := by decide +kernel
theorem dX12_list_0 : decode cX12_list 0 = .ok (.iconst 0, 1) := by decide +kernel
theorem dX12_list_1 : decode cX12_list 1 = .ok (.istore_n 1, 1) := by decide +kernel
theorem dX12_list_2 : decode cX12_list 2 = .ok (.iconst 0, 1) := by decide +kernel
theorem dX12_list_3 : decode cX12_list 3 = .ok (.istore_n 2, 1) := by decide +kernel
theorem dX12_list_4 : decode cX12_list 4 = .ok (.iload_n 2, 1) := by decide +kernel
theorem dX12_list_5 : decode cX12_list 5 = .ok (.iconst 4, 1) := by decide +kernel
theorem dX12_list_6 : decode cX12_list 6 = .ok (.if_icmp .ge 51, 3) := by decide +kernel
theorem dX12_list_9 : decode cX12_list 9 = .ok (.iconst 0, 1) := by decide +kernel
theorem dX12_list_10 : decode cX12_list 10 = .ok (.istore_n 3, 1) := by decide +kernel
theorem dX12_list_11 : decode cX12_list 11 = .ok (.iload_n 3, 1) := by decide +kernel
theorem dX12_list_12 : decode cX12_list 12 = .ok (.aload_n 0, 1) := by decide +kernel
theorem dX12_list_13 : decode cX12_list 13 = .ok (.getfield 58, 3) := by decide +kernel
theorem dX12_list_16 : decode cX12_list 16 = .ok (.iload_n 2, 1) := by decide +kernel
theorem dX12_list_17 : decode cX12_list 17 = .ok (.iaload, 1) := by decide +kernel
theorem dX12_list_18 : decode cX12_list 18 = .ok (.if_icmp .ge 33, 3) := by decide +kernel
theorem dX12_list_51 : decode cX12_list 51 = .ok (.iinc 2 1, 3) := by decide +kernel
theorem dX12_list_54 : decode cX12_list 54 = .ok (.goto (-50), 3) := by decide +kernel
theorem dX12_list_57 : decode cX12_list 57 = .ok (.iload_n 1, 1) := by decide +kernel
theorem dX12_list_58 : decode cX12_list 58 = .ok (.ireturn, 1) := by decide +kernel
theorem dX12_load_0 : decode cX12_load 0 = .ok (.iconst 0, 1) := by decide +kernel
theorem dX12_load_1 : decode cX12_load 1 = .ok (.istore_n 1, 1) := by decide +kernel
theorem dX12_load_2 : decode cX12_load 2 = .ok (.iconst 0, 1) := by decide +kernel
theorem dX12_load_3 : decode cX12_load 3 = .ok (.istore_n 2, 1) := by decide +kernel
theorem dX12_load_4 : decode cX12_load 4 = .ok (.iload_n 2, 1) := by decide +kernel
theorem dX12_load_5 : decode cX12_load 5 = .ok (.iconst 4, 1) := by decide +kernel
theorem dX12_load_6 : decode cX12_load 6 = .ok (.if_icmp .ge 46, 3) := by decide +kernel
theorem dX12_load_9 : decode cX12_load 9 = .ok (.iconst 0, 1) := by decide +kernel
theorem dX12_load_10 : decode cX12_load 10 = .ok (.istore_n 3, 1) := by decide +kernel
theorem dX12_load_11 : decode cX12_load 11 = .ok (.iload_n 3, 1) := by decide +kernel
theorem dX12_load_12 : decode cX12_load 12 = .ok (.aload_n 0, 1) := by decide +kernel
theorem dX12_load_13 : decode cX12_load 13 = .ok (.getfield 58, 3) := by decide +kernel
theorem dX12_load_16 : decode cX12_load 16 = .ok (.iload_n 2, 1) := by decide +kernel
theorem dX12_load_17 : decode cX12_load 17 = .ok (.iaload, 1) := by decide +kernel
theorem dX12_load_18 : decode cX12_load 18 = .ok (.if_icmp .ge 28, 3) := by decide +kernel
theorem dX12_load_46 : decode cX12_load 46 = .ok (.iinc 2 1, 3) := by decide +kernel
theorem dX12_load_49 : decode cX12_load 49 = .ok (.goto (-45), 3) := by decide +kernel
theorem dX12_load_52 : decode cX12_load 52 = .ok (.iload_n 1, 1) := by decide +kernel
theorem dX12_load_53 : decode cX12_load 53 = .ok (.ireturn, 1) := by decide +kernel
theorem dX12_onDeck_0 : decode cX12_onDeck 0 = .ok (.aload_n 0, 1) := by decide +kernel
theorem dX12_onDeck_1 : decode cX12_onDeck 1 = .ok (.getfield 58, 3) := by decide +kernel
theorem dX12_onDeck_4 : decode cX12_onDeck 4 = .ok (.iconst 0, 1) := by decide +kernel
theorem dX12_onDeck_5 : decode cX12_onDeck 5 = .ok (.iaload, 1) := by decide +kernel
theorem dX12_onDeck_6 : decode cX12_onDeck 6 = .ok (.aload_n 0, 1) := by decide +kernel
theorem dX12_onDeck_7 : decode cX12_onDeck 7 = .ok (.getfield 58, 3) := by decide +kernel
theorem dX12_onDeck_10 : decode cX12_onDeck 10 = .ok (.iconst 1, 1) := by decide +kernel
theorem dX12_onDeck_11 : decode cX12_onDeck 11 = .ok (.iaload, 1) := by decide +kernel
theorem dX12_onDeck_12 : decode cX12_onDeck 12 = .ok (.iadd, 1) := by decide +kernel
theorem dX12_onDeck_13 : decode cX12_onDeck 13 = .ok (.aload_n 0, 1) := by decide +kernel
theorem dX12_onDeck_14 : decode cX12_onDeck 14 = .ok (.getfield 58, 3) := by decide +kernel
theorem dX12_onDeck_17 : decode cX12_onDeck 17 = .ok (.iconst 2, 1) := by decide +kernel
theorem dX12_onDeck_18 : decode cX12_onDeck 18 = .ok (.iaload, 1) := by decide +kernel
theorem dX12_onDeck_19 : decode cX12_onDeck 19 = .ok (.iadd, 1) := by decide +kernel
theorem dX12_onDeck_20 : decode cX12_onDeck 20 = .ok (.aload_n 0, 1) := by decide +kernel
theorem dX12_onDeck_21 : decode cX12_onDeck 21 = .ok (.getfield 58, 3) := by decide +kernel
theorem dX12_onDeck_24 : decode cX12_onDeck 24 = .ok (.iconst 3, 1) := by decide +kernel
theorem dX12_onDeck_25 : decode cX12_onDeck 25 = .ok (.iaload, 1) := by decide +kernel
theorem dX12_onDeck_26 : decode cX12_onDeck 26 = .ok (.iadd, 1) := by decide +kernel
theorem dX12_onDeck_27 : decode cX12_onDeck 27 = .ok (.ireturn, 1) := by decide +kernel
theorem dX12_puts_0 : decode cX12_puts 0 = .ok (.aload_n 0, 1) := by decide +kernel
theorem dX12_puts_1 : decode cX12_puts 1 = .ok (.getfield 55, 3) := by decide +kernel
theorem dX12_puts_4 : decode cX12_puts 4 = .ok (.bipush 100, 2) := by decide +kernel
theorem dX12_puts_6 : decode cX12_puts 6 = .ok (.iload_n 1, 1) := by decide +kernel
theorem dX12_puts_7 : decode cX12_puts 7 = .ok (.imul, 1) := by decide +kernel
theorem dX12_puts_8 : decode cX12_puts 8 = .ok (.aload_n 0, 1) := by decide +kernel
theorem dX12_puts_9 : decode cX12_puts 9 = .ok (.getfield 58, 3) := by decide +kernel
theorem dX12_puts_12 : decode cX12_puts 12 = .ok (.iload_n 1, 1) := by decide +kernel
theorem dX12_puts_13 : decode cX12_puts 13 = .ok (.iaload, 1) := by decide +kernel
theorem dX12_puts_14 : decode cX12_puts 14 = .ok (.iadd, 1) := by decide +kernel
theorem dX12_puts_15 : decode cX12_puts 15 = .ok (.iload_n 2, 1) := by decide +kernel
theorem dX12_puts_16 : decode cX12_puts 16 = .ok (.iastore, 1) := by decide +kernel
theorem dX12_puts_17 : decode cX12_puts 17 = .ok (.aload_n 0, 1) := by decide +kernel
theorem dX12_puts_18 : decode cX12_puts 18 = .ok (.getfield 58, 3) := by decide +kernel
theorem dX12_puts_21 : decode cX12_puts 21 = .ok (.iload_n 1, 1) := by decide +kernel
theorem dX12_puts_22 : decode cX12_puts 22 = .ok (.dup2, 1) := by decide +kernel
theorem dX12_puts_23 : decode cX12_puts 23 = .ok (.iaload, 1) := by decide +kernel
theorem dX12_puts_24 : decode cX12_puts 24 = .ok (.iconst 1, 1) := by decide +kernel
theorem dX12_puts_25 : decode cX12_puts 25 = .ok (.iadd, 1) := by decide +kernel
theorem dX12_puts_26 : decode cX12_puts 26 = .ok (.iastore, 1) := by decide +kernel
theorem dX12_puts_27 : decode cX12_puts 27 = .ok (.return_, 1) := by decide +kernel
set_option maxRecDepth 20000 in
theorem ggX12_ship_X12_within : GoodIn wsX12_ship wsX12_within := goodIn_r _ [9] (by decide +kernel) (by decide +kernel)
set_option maxRecDepth 20000 in
theorem gX12_ship_X12_within : GoodIn wsX12_ship (va_wsS RX12 126 yX12_within wsX12_within) := goodIn_app (goodIn_of _ (by decide +kernel)) ggX12_ship_X12_within
set_option maxRecDepth 20000 in
theorem ggX12_ship_X12_onDeck : GoodIn wsX12_ship wsX12_onDeck := goodIn_r _ [13, 14, 15, 16, 17, 18, 19, 20, 21, 22, 23, 24, 25, 26, 27, 28, 29, 30, 31, 32, 33, 34, 35, 36, 37, 38, 39, 40, 41, 42, 43, 44, 45, 46, 47, 48, 49, 50, 51, 52, 53, 54, 55, 56, 57, 58, 59, 60, 61, 62, 63, 64, 65, 66, 67, 68, 69] (by decide +kernel) (by decide +kernel)
set_option maxRecDepth 20000 in
theorem gX12_ship_X12_onDeck : GoodIn wsX12_ship (wsV RX12 130 RX12 yX12_onDeck wsX12_onDeck) := goodIn_app (goodIn_of _ (by decide +kernel)) ggX12_ship_X12_onDeck
theorem dX12_ship_0 : decode cX12_ship 0 = .ok (.aload_n 0, 1) := by decide +kernel
theorem dX12_ship_1 : decode cX12_ship 1 = .ok (.iconst 0, 1) := by decide +kernel
theorem dX12_ship_2 : decode cX12_ship 2 = .ok (.putfield 1, 3) := by decide +kernel
theorem dX12_ship_5 : decode cX12_ship 5 = .ok (.iload_n 1, 1) := by decide +kernel
theorem dX12_ship_6 : decode cX12_ship 6 = .ok (.bipush 40, 2) := by decide +kernel
theorem dX12_ship_8 : decode cX12_ship 8 = .ok (.sipush 200, 3) := by decide +kernel
theorem dX12_ship_11 : decode cX12_ship 11 = .ok (.invokestatic 126, 3) := by decide +kernel
theorem dX12_ship_14 : decode cX12_ship 14 = .ok (.ifCond .eq 43, 3) := by decide +kernel
theorem dX12_ship_17 : decode cX12_ship 17 = .ok (.iload_n 2, 1) := by decide +kernel
theorem dX12_ship_18 : decode cX12_ship 18 = .ok (.iconst 0, 1) := by decide +kernel
theorem dX12_ship_19 : decode cX12_ship 19 = .ok (.sipush 2000, 3) := by decide +kernel
theorem dX12_ship_22 : decode cX12_ship 22 = .ok (.invokestatic 126, 3) := by decide +kernel
theorem dX12_ship_25 : decode cX12_ship 25 = .ok (.ifCond .eq 32, 3) := by decide +kernel
theorem dX12_ship_28 : decode cX12_ship 28 = .ok (.iload_n 3, 1) := by decide +kernel
theorem dX12_ship_29 : decode cX12_ship 29 = .ok (.iconst 0, 1) := by decide +kernel
theorem dX12_ship_30 : decode cX12_ship 30 = .ok (.bipush 50, 2) := by decide +kernel
theorem dX12_ship_32 : decode cX12_ship 32 = .ok (.invokestatic 126, 3) := by decide +kernel
theorem dX12_ship_35 : decode cX12_ship 35 = .ok (.ifCond .eq 22, 3) := by decide +kernel
theorem dX12_ship_38 : decode cX12_ship 38 = .ok (.iload 4, 2) := by decide +kernel
theorem dX12_ship_40 : decode cX12_ship 40 = .ok (.iconst 0, 1) := by decide +kernel
theorem dX12_ship_41 : decode cX12_ship 41 = .ok (.sipush 1000, 3) := by decide +kernel
theorem dX12_ship_44 : decode cX12_ship 44 = .ok (.invokestatic 126, 3) := by decide +kernel
theorem dX12_ship_47 : decode cX12_ship 47 = .ok (.ifCond .eq 10, 3) := by decide +kernel
theorem dX12_ship_50 : decode cX12_ship 50 = .ok (.aload_n 0, 1) := by decide +kernel
theorem dX12_ship_51 : decode cX12_ship 51 = .ok (.invokevirtual 130, 3) := by decide +kernel
theorem dX12_ship_54 : decode cX12_ship 54 = .ok (.ifCond .le 5, 3) := by decide +kernel
theorem dX12_ship_57 : decode cX12_ship 57 = .ok (.iconst 0, 1) := by decide +kernel
theorem dX12_ship_58 : decode cX12_ship 58 = .ok (.ireturn, 1) := by decide +kernel
theorem dX12_ship_59 : decode cX12_ship 59 = .ok (.aload_n 0, 1) := by decide +kernel
theorem dX12_ship_60 : decode cX12_ship 60 = .ok (.iload_n 1, 1) := by decide +kernel
theorem dX12_ship_61 : decode cX12_ship 61 = .ok (.putfield 13, 3) := by decide +kernel
theorem dX12_ship_64 : decode cX12_ship 64 = .ok (.aload_n 0, 1) := by decide +kernel
theorem dX12_ship_65 : decode cX12_ship 65 = .ok (.iload_n 2, 1) := by decide +kernel
theorem dX12_ship_66 : decode cX12_ship 66 = .ok (.putfield 16, 3) := by decide +kernel
theorem dX12_ship_69 : decode cX12_ship 69 = .ok (.aload_n 0, 1) := by decide +kernel
theorem dX12_ship_70 : decode cX12_ship 70 = .ok (.iload_n 3, 1) := by decide +kernel
theorem dX12_ship_71 : decode cX12_ship 71 = .ok (.putfield 19, 3) := by decide +kernel
theorem dX12_ship_74 : decode cX12_ship 74 = .ok (.aload_n 0, 1) := by decide +kernel
theorem dX12_ship_75 : decode cX12_ship 75 = .ok (.iload 4, 2) := by decide +kernel
theorem dX12_ship_77 : decode cX12_ship 77 = .ok (.putfield 22, 3) := by decide +kernel
theorem dX12_ship_80 : decode cX12_ship 80 = .ok (.iconst 1, 1) := by decide +kernel
theorem dX12_ship_81 : decode cX12_ship 81 = .ok (.ireturn, 1) := by decide +kernel
theorem dX12_isShore_0 : decode cX12_isShore 0 = .ok (.iload_n 0, 1) := by decide +kernel
theorem dX12_isShore_1 : decode cX12_isShore 1 = .ok (.ifCond .eq 8, 3) := by decide +kernel
theorem dX12_isShore_4 : decode cX12_isShore 4 = .ok (.iload_n 0, 1) := by decide +kernel
theorem dX12_isShore_5 : decode cX12_isShore 5 = .ok (.iconst 1, 1) := by decide +kernel
theorem dX12_isShore_6 : decode cX12_isShore 6 = .ok (.if_icmp .ne 7, 3) := by decide +kernel
theorem dX12_isShore_9 : decode cX12_isShore 9 = .ok (.iconst 1, 1) := by decide +kernel
theorem dX12_isShore_10 : decode cX12_isShore 10 = .ok (.goto 4, 3) := by decide +kernel
theorem dX12_isShore_13 : decode cX12_isShore 13 = .ok (.iconst 0, 1) := by decide +kernel
theorem dX12_isShore_14 : decode cX12_isShore 14 = .ok (.ireturn, 1) := by decide +kernel
set_option maxRecDepth 20000 in
theorem ggX12_wagon_X12_isShore : GoodIn wsX12_wagon wsX12_isShore := goodIn_r _ [11] (by decide +kernel) (by decide +kernel)
set_option maxRecDepth 20000 in
theorem gX12_wagon_X12_isShore : GoodIn wsX12_wagon (va_wsS RX12 134 yX12_isShore wsX12_isShore) := goodIn_app (goodIn_of _ (by decide +kernel)) ggX12_wagon_X12_isShore
set_option maxRecDepth 20000 in
theorem ggX12_wagon_X12_within : GoodIn wsX12_wagon wsX12_within := goodIn_r _ [14] (by decide +kernel) (by decide +kernel)
set_option maxRecDepth 20000 in
theorem gX12_wagon_X12_within : GoodIn wsX12_wagon (va_wsS RX12 126 yX12_within wsX12_within) := goodIn_app (goodIn_of _ (by decide +kernel)) ggX12_wagon_X12_within
set_option maxRecDepth 20000 in
theorem ggX12_wagon_X12_yardRow : GoodIn wsX12_wagon wsX12_yardRow := goodIn_r _ [17] (by decide +kernel) (by decide +kernel)
set_option maxRecDepth 20000 in
theorem gX12_wagon_X12_yardRow : GoodIn wsX12_wagon (va_wsS RX12 141 yX12_yardRow wsX12_yardRow) := goodIn_app (goodIn_of _ (by decide +kernel)) ggX12_wagon_X12_yardRow
set_option maxRecDepth 20000 in
theorem ggX12_wagon_X12_used : GoodIn wsX12_wagon wsX12_used := goodIn_r _ [21, 22, 3, 23, 28, 29, 30, 31, 32, 33, 34, 35, 36, 37, 38, 39, 40, 41, 42, 43, 44, 45, 46, 47, 48, 49, 50, 51, 52, 53, 54, 55, 56, 57, 58, 59, 60, 61, 62, 63, 64, 65, 66, 67, 68, 69, 70, 71, 72, 73, 74, 75, 76, 77, 78, 79, 80, 81, 82] (by decide +kernel) (by decide +kernel)
set_option maxRecDepth 20000 in
theorem gX12_wagon_X12_used : GoodIn wsX12_wagon (wsV RX12 145 RX12 yX12_used wsX12_used) := goodIn_app (goodIn_of _ (by decide +kernel)) ggX12_wagon_X12_used
set_option maxRecDepth 20000 in
theorem ggX12_wagon_X12_puts : GoodIn wsX12_wagon wsX12_puts := goodIn_r _ [27, 23, 22, 28, 29, 30, 31, 32, 33, 34, 35, 36, 37, 38, 39, 40, 41, 42, 43, 44, 45, 46, 47, 48, 49, 50, 51, 52, 53, 54, 55, 56, 57, 58, 59, 60, 61, 62, 63, 64, 65, 66, 67, 68, 69, 70, 71, 72, 73, 74, 75, 76, 77, 78, 79, 80, 81, 82] (by decide +kernel) (by decide +kernel)
set_option maxRecDepth 20000 in
theorem gX12_wagon_X12_puts : GoodIn wsX12_wagon (wsV RX12 148 RX12 yX12_puts wsX12_puts) := goodIn_app (goodIn_of _ (by decide +kernel)) ggX12_wagon_X12_puts
theorem dX12_wagon_0 : decode cX12_wagon 0 = .ok (.aload_n 0, 1) := by decide +kernel
theorem dX12_wagon_1 : decode cX12_wagon 1 = .ok (.iconst 0, 1) := by decide +kernel
theorem dX12_wagon_2 : decode cX12_wagon 2 = .ok (.putfield 1, 3) := by decide +kernel
theorem dX12_wagon_5 : decode cX12_wagon 5 = .ok (.iload_n 1, 1) := by decide +kernel
theorem dX12_wagon_6 : decode cX12_wagon 6 = .ok (.invokestatic 134, 3) := by decide +kernel
theorem dX12_wagon_9 : decode cX12_wagon 9 = .ok (.ifCond .eq 49, 3) := by decide +kernel
theorem dX12_wagon_12 : decode cX12_wagon 12 = .ok (.iload_n 2, 1) := by decide +kernel
theorem dX12_wagon_13 : decode cX12_wagon 13 = .ok (.iconst 0, 1) := by decide +kernel
theorem dX12_wagon_14 : decode cX12_wagon 14 = .ok (.iconst 2, 1) := by decide +kernel
theorem dX12_wagon_15 : decode cX12_wagon 15 = .ok (.invokestatic 126, 3) := by decide +kernel
theorem dX12_wagon_18 : decode cX12_wagon 18 = .ok (.ifCond .eq 40, 3) := by decide +kernel
theorem dX12_wagon_21 : decode cX12_wagon 21 = .ok (.iload_n 3, 1) := by decide +kernel
theorem dX12_wagon_22 : decode cX12_wagon 22 = .ok (.bipush 6, 2) := by decide +kernel
theorem dX12_wagon_24 : decode cX12_wagon 24 = .ok (.bipush 26, 2) := by decide +kernel
theorem dX12_wagon_26 : decode cX12_wagon 26 = .ok (.invokestatic 126, 3) := by decide +kernel
theorem dX12_wagon_29 : decode cX12_wagon 29 = .ok (.ifCond .eq 29, 3) := by decide +kernel
theorem dX12_wagon_32 : decode cX12_wagon 32 = .ok (.iload 4, 2) := by decide +kernel
theorem dX12_wagon_34 : decode cX12_wagon 34 = .ok (.bipush 10, 2) := by decide +kernel
theorem dX12_wagon_36 : decode cX12_wagon 36 = .ok (.bipush 90, 2) := by decide +kernel
theorem dX12_wagon_38 : decode cX12_wagon 38 = .ok (.invokestatic 126, 3) := by decide +kernel
theorem dX12_wagon_41 : decode cX12_wagon 41 = .ok (.ifCond .eq 17, 3) := by decide +kernel
theorem dX12_wagon_44 : decode cX12_wagon 44 = .ok (.iload 5, 2) := by decide +kernel
theorem dX12_wagon_46 : decode cX12_wagon 46 = .ok (.iconst 0, 1) := by decide +kernel
theorem dX12_wagon_47 : decode cX12_wagon 47 = .ok (.iconst 3, 1) := by decide +kernel
theorem dX12_wagon_48 : decode cX12_wagon 48 = .ok (.invokestatic 126, 3) := by decide +kernel
theorem dX12_wagon_51 : decode cX12_wagon 51 = .ok (.ifCond .eq 7, 3) := by decide +kernel
theorem dX12_wagon_54 : decode cX12_wagon 54 = .ok (.iconst 1, 1) := by decide +kernel
theorem dX12_wagon_55 : decode cX12_wagon 55 = .ok (.goto 4, 3) := by decide +kernel
theorem dX12_wagon_58 : decode cX12_wagon 58 = .ok (.iconst 0, 1) := by decide +kernel
theorem dX12_wagon_59 : decode cX12_wagon 59 = .ok (.istore 6, 2) := by decide +kernel
theorem dX12_wagon_61 : decode cX12_wagon 61 = .ok (.iload 6, 2) := by decide +kernel
theorem dX12_wagon_63 : decode cX12_wagon 63 = .ok (.ifCond .eq 29, 3) := by decide +kernel
theorem dX12_wagon_66 : decode cX12_wagon 66 = .ok (.aload_n 0, 1) := by decide +kernel
theorem dX12_wagon_67 : decode cX12_wagon 67 = .ok (.getfield 138, 3) := by decide +kernel
theorem dX12_wagon_70 : decode cX12_wagon 70 = .ok (.bipush 100, 2) := by decide +kernel
theorem dX12_wagon_72 : decode cX12_wagon 72 = .ok (.if_icmp .eq 20, 3) := by decide +kernel
theorem dX12_wagon_75 : decode cX12_wagon 75 = .ok (.aload_n 0, 1) := by decide +kernel
theorem dX12_wagon_76 : decode cX12_wagon 76 = .ok (.iload_n 1, 1) := by decide +kernel
theorem dX12_wagon_77 : decode cX12_wagon 77 = .ok (.iload_n 2, 1) := by decide +kernel
theorem dX12_wagon_78 : decode cX12_wagon 78 = .ok (.invokestatic 141, 3) := by decide +kernel
theorem dX12_wagon_81 : decode cX12_wagon 81 = .ok (.invokevirtual 145, 3) := by decide +kernel
theorem dX12_wagon_84 : decode cX12_wagon 84 = .ok (.iload_n 3, 1) := by decide +kernel
theorem dX12_wagon_85 : decode cX12_wagon 85 = .ok (.iadd, 1) := by decide +kernel
theorem dX12_wagon_86 : decode cX12_wagon 86 = .ok (.sipush 200, 3) := by decide +kernel
theorem dX12_wagon_89 : decode cX12_wagon 89 = .ok (.if_icmp .le 5, 3) := by decide +kernel
theorem dX12_wagon_92 : decode cX12_wagon 92 = .ok (.iconst (-1), 1) := by decide +kernel
theorem dX12_wagon_93 : decode cX12_wagon 93 = .ok (.ireturn, 1) := by decide +kernel
theorem dX12_wagon_94 : decode cX12_wagon 94 = .ok (.aload_n 0, 1) := by decide +kernel
theorem dX12_wagon_95 : decode cX12_wagon 95 = .ok (.getfield 138, 3) := by decide +kernel
theorem dX12_wagon_98 : decode cX12_wagon 98 = .ok (.istore 7, 2) := by decide +kernel
theorem dX12_wagon_100 : decode cX12_wagon 100 = .ok (.aload_n 0, 1) := by decide +kernel
theorem dX12_wagon_101 : decode cX12_wagon 101 = .ok (.dup, 1) := by decide +kernel
theorem dX12_wagon_102 : decode cX12_wagon 102 = .ok (.getfield 138, 3) := by decide +kernel
theorem dX12_wagon_105 : decode cX12_wagon 105 = .ok (.iconst 1, 1) := by decide +kernel
theorem dX12_wagon_106 : decode cX12_wagon 106 = .ok (.iadd, 1) := by decide +kernel
theorem dX12_wagon_107 : decode cX12_wagon 107 = .ok (.putfield 138, 3) := by decide +kernel
theorem dX12_wagon_110 : decode cX12_wagon 110 = .ok (.aload_n 0, 1) := by decide +kernel
theorem dX12_wagon_111 : decode cX12_wagon 111 = .ok (.getfield 29, 3) := by decide +kernel
theorem dX12_wagon_114 : decode cX12_wagon 114 = .ok (.iload 7, 2) := by decide +kernel
theorem dX12_wagon_116 : decode cX12_wagon 116 = .ok (.iload_n 3, 1) := by decide +kernel
theorem dX12_wagon_117 : decode cX12_wagon 117 = .ok (.iastore, 1) := by decide +kernel
theorem dX12_wagon_118 : decode cX12_wagon 118 = .ok (.aload_n 0, 1) := by decide +kernel
theorem dX12_wagon_119 : decode cX12_wagon 119 = .ok (.getfield 33, 3) := by decide +kernel
theorem dX12_wagon_122 : decode cX12_wagon 122 = .ok (.iload 7, 2) := by decide +kernel
theorem dX12_wagon_124 : decode cX12_wagon 124 = .ok (.iload 4, 2) := by decide +kernel
theorem dX12_wagon_126 : decode cX12_wagon 126 = .ok (.iastore, 1) := by decide +kernel
theorem dX12_wagon_127 : decode cX12_wagon 127 = .ok (.aload_n 0, 1) := by decide +kernel
theorem dX12_wagon_128 : decode cX12_wagon 128 = .ok (.getfield 36, 3) := by decide +kernel
theorem dX12_wagon_131 : decode cX12_wagon 131 = .ok (.iload 7, 2) := by decide +kernel
theorem dX12_wagon_133 : decode cX12_wagon 133 = .ok (.iload 5, 2) := by decide +kernel
theorem dX12_wagon_135 : decode cX12_wagon 135 = .ok (.iastore, 1) := by decide +kernel
theorem dX12_wagon_136 : decode cX12_wagon 136 = .ok (.aload_n 0, 1) := by decide +kernel
theorem dX12_wagon_137 : decode cX12_wagon 137 = .ok (.getfield 39, 3) := by decide +kernel
theorem dX12_wagon_140 : decode cX12_wagon 140 = .ok (.iload 7, 2) := by decide +kernel
theorem dX12_wagon_142 : decode cX12_wagon 142 = .ok (.iload_n 1, 1) := by decide +kernel
theorem dX12_wagon_143 : decode cX12_wagon 143 = .ok (.iastore, 1) := by decide +kernel
theorem dX12_wagon_144 : decode cX12_wagon 144 = .ok (.aload_n 0, 1) := by decide +kernel
theorem dX12_wagon_145 : decode cX12_wagon 145 = .ok (.getfield 42, 3) := by decide +kernel
theorem dX12_wagon_148 : decode cX12_wagon 148 = .ok (.iload 7, 2) := by decide +kernel
theorem dX12_wagon_150 : decode cX12_wagon 150 = .ok (.iconst 0, 1) := by decide +kernel
theorem dX12_wagon_151 : decode cX12_wagon 151 = .ok (.bastore, 1) := by decide +kernel
theorem dX12_wagon_152 : decode cX12_wagon 152 = .ok (.aload_n 0, 1) := by decide +kernel
theorem dX12_wagon_153 : decode cX12_wagon 153 = .ok (.iload_n 1, 1) := by decide +kernel
theorem dX12_wagon_154 : decode cX12_wagon 154 = .ok (.iload_n 2, 1) := by decide +kernel
theorem dX12_wagon_155 : decode cX12_wagon 155 = .ok (.invokestatic 141, 3) := by decide +kernel
theorem dX12_wagon_158 : decode cX12_wagon 158 = .ok (.iload 7, 2) := by decide +kernel
theorem dX12_wagon_160 : decode cX12_wagon 160 = .ok (.invokevirtual 148, 3) := by decide +kernel
theorem dX12_wagon_163 : decode cX12_wagon 163 = .ok (.iload 7, 2) := by decide +kernel
theorem dX12_wagon_165 : decode cX12_wagon 165 = .ok (.ireturn, 1) := by decide +kernel
set_option maxRecDepth 20000 in
theorem ggX12_tide_X12_isShore : GoodIn wsX12_tide wsX12_isShore := goodIn_r _ [10] (by decide +kernel) (by decide +kernel)
set_option maxRecDepth 20000 in
theorem gX12_tide_X12_isShore : GoodIn wsX12_tide (va_wsS RX12 134 yX12_isShore wsX12_isShore) := goodIn_app (goodIn_of _ (by decide +kernel)) ggX12_tide_X12_isShore
set_option maxRecDepth 20000 in
theorem ggX12_tide_X12_within : GoodIn wsX12_tide wsX12_within := goodIn_r _ [13] (by decide +kernel) (by decide +kernel)
set_option maxRecDepth 20000 in
theorem gX12_tide_X12_within : GoodIn wsX12_tide (va_wsS RX12 126 yX12_within wsX12_within) := goodIn_app (goodIn_of _ (by decide +kernel)) ggX12_tide_X12_within
theorem dX12_tide_0 : decode cX12_tide 0 = .ok (.aload_n 0, 1) := by decide +kernel
theorem dX12_tide_1 : decode cX12_tide 1 = .ok (.iconst 0, 1) := by decide +kernel
theorem dX12_tide_2 : decode cX12_tide 2 = .ok (.putfield 1, 3) := by decide +kernel
theorem dX12_tide_5 : decode cX12_tide 5 = .ok (.iload_n 1, 1) := by decide +kernel
theorem dX12_tide_6 : decode cX12_tide 6 = .ok (.invokestatic 134, 3) := by decide +kernel
theorem dX12_tide_9 : decode cX12_tide 9 = .ok (.ifCond .eq 38, 3) := by decide +kernel
theorem dX12_tide_12 : decode cX12_tide 12 = .ok (.iload_n 2, 1) := by decide +kernel
theorem dX12_tide_13 : decode cX12_tide 13 = .ok (.aload_n 0, 1) := by decide +kernel
theorem dX12_tide_14 : decode cX12_tide 14 = .ok (.getfield 152, 3) := by decide +kernel
theorem dX12_tide_17 : decode cX12_tide 17 = .ok (.sipush 5000, 3) := by decide +kernel
theorem dX12_tide_20 : decode cX12_tide 20 = .ok (.invokestatic 126, 3) := by decide +kernel
theorem dX12_tide_23 : decode cX12_tide 23 = .ok (.ifCond .eq 24, 3) := by decide +kernel
theorem dX12_tide_26 : decode cX12_tide 26 = .ok (.iload_n 3, 1) := by decide +kernel
theorem dX12_tide_27 : decode cX12_tide 27 = .ok (.bipush (-50), 2) := by decide +kernel
theorem dX12_tide_29 : decode cX12_tide 29 = .ok (.bipush 50, 2) := by decide +kernel
theorem dX12_tide_31 : decode cX12_tide 31 = .ok (.invokestatic 126, 3) := by decide +kernel
theorem dX12_tide_34 : decode cX12_tide 34 = .ok (.ifCond .eq 13, 3) := by decide +kernel
theorem dX12_tide_37 : decode cX12_tide 37 = .ok (.aload_n 0, 1) := by decide +kernel
theorem dX12_tide_38 : decode cX12_tide 38 = .ok (.getfield 155, 3) := by decide +kernel
theorem dX12_tide_41 : decode cX12_tide 41 = .ok (.sipush 200, 3) := by decide +kernel
theorem dX12_tide_44 : decode cX12_tide 44 = .ok (.if_icmp .ne 5, 3) := by decide +kernel
theorem dX12_tide_47 : decode cX12_tide 47 = .ok (.iconst 0, 1) := by decide +kernel
theorem dX12_tide_48 : decode cX12_tide 48 = .ok (.ireturn, 1) := by decide +kernel
theorem dX12_tide_49 : decode cX12_tide 49 = .ok (.aload_n 0, 1) := by decide +kernel
theorem dX12_tide_50 : decode cX12_tide 50 = .ok (.getfield 61, 3) := by decide +kernel
theorem dX12_tide_53 : decode cX12_tide 53 = .ok (.aload_n 0, 1) := by decide +kernel
theorem dX12_tide_54 : decode cX12_tide 54 = .ok (.getfield 155, 3) := by decide +kernel
theorem dX12_tide_57 : decode cX12_tide 57 = .ok (.iload_n 1, 1) := by decide +kernel
theorem dX12_tide_58 : decode cX12_tide 58 = .ok (.iastore, 1) := by decide +kernel
theorem dX12_tide_59 : decode cX12_tide 59 = .ok (.aload_n 0, 1) := by decide +kernel
theorem dX12_tide_60 : decode cX12_tide 60 = .ok (.getfield 64, 3) := by decide +kernel
theorem dX12_tide_63 : decode cX12_tide 63 = .ok (.aload_n 0, 1) := by decide +kernel
theorem dX12_tide_64 : decode cX12_tide 64 = .ok (.getfield 155, 3) := by decide +kernel
theorem dX12_tide_67 : decode cX12_tide 67 = .ok (.iload_n 2, 1) := by decide +kernel
theorem dX12_tide_68 : decode cX12_tide 68 = .ok (.iastore, 1) := by decide +kernel
theorem dX12_tide_69 : decode cX12_tide 69 = .ok (.aload_n 0, 1) := by decide +kernel
theorem dX12_tide_70 : decode cX12_tide 70 = .ok (.getfield 67, 3) := by decide +kernel
theorem dX12_tide_73 : decode cX12_tide 73 = .ok (.aload_n 0, 1) := by decide +kernel
theorem dX12_tide_74 : decode cX12_tide 74 = .ok (.getfield 155, 3) := by decide +kernel
theorem dX12_tide_77 : decode cX12_tide 77 = .ok (.iload_n 3, 1) := by decide +kernel
theorem dX12_tide_78 : decode cX12_tide 78 = .ok (.iastore, 1) := by decide +kernel
theorem dX12_tide_79 : decode cX12_tide 79 = .ok (.aload_n 0, 1) := by decide +kernel
theorem dX12_tide_80 : decode cX12_tide 80 = .ok (.dup, 1) := by decide +kernel
theorem dX12_tide_81 : decode cX12_tide 81 = .ok (.getfield 155, 3) := by decide +kernel
theorem dX12_tide_84 : decode cX12_tide 84 = .ok (.iconst 1, 1) := by decide +kernel
theorem dX12_tide_85 : decode cX12_tide 85 = .ok (.iadd, 1) := by decide +kernel
theorem dX12_tide_86 : decode cX12_tide 86 = .ok (.putfield 155, 3) := by decide +kernel
theorem dX12_tide_89 : decode cX12_tide 89 = .ok (.iconst 1, 1) := by decide +kernel
theorem dX12_tide_90 : decode cX12_tide 90 = .ok (.ireturn, 1) := by decide +kernel
set_option maxRecDepth 20000 in
theorem ggX12_sea_X12_within : GoodIn wsX12_sea wsX12_within := goodIn_r _ [6] (by decide +kernel) (by decide +kernel)
set_option maxRecDepth 20000 in
theorem gX12_sea_X12_within : GoodIn wsX12_sea (va_wsS RX12 126 yX12_within wsX12_within) := goodIn_app (goodIn_of _ (by decide +kernel)) ggX12_sea_X12_within
theorem dX12_sea_0 : decode cX12_sea 0 = .ok (.aload_n 0, 1) := by decide +kernel
theorem dX12_sea_1 : decode cX12_sea 1 = .ok (.iconst 0, 1) := by decide +kernel
theorem dX12_sea_2 : decode cX12_sea 2 = .ok (.putfield 1, 3) := by decide +kernel
theorem dX12_sea_5 : decode cX12_sea 5 = .ok (.iload_n 1, 1) := by decide +kernel
theorem dX12_sea_6 : decode cX12_sea 6 = .ok (.iconst 0, 1) := by decide +kernel
theorem dX12_sea_7 : decode cX12_sea 7 = .ok (.iconst 5, 1) := by decide +kernel
theorem dX12_sea_8 : decode cX12_sea 8 = .ok (.invokestatic 126, 3) := by decide +kernel
theorem dX12_sea_11 : decode cX12_sea 11 = .ok (.ifCond .ne 5, 3) := by decide +kernel
theorem dX12_sea_14 : decode cX12_sea 14 = .ok (.iconst 0, 1) := by decide +kernel
theorem dX12_sea_15 : decode cX12_sea 15 = .ok (.ireturn, 1) := by decide +kernel
theorem dX12_sea_16 : decode cX12_sea 16 = .ok (.aload_n 0, 1) := by decide +kernel
theorem dX12_sea_17 : decode cX12_sea 17 = .ok (.iload_n 1, 1) := by decide +kernel
theorem dX12_sea_18 : decode cX12_sea 18 = .ok (.putfield 158, 3) := by decide +kernel
theorem dX12_sea_21 : decode cX12_sea 21 = .ok (.iconst 1, 1) := by decide +kernel
theorem dX12_sea_22 : decode cX12_sea 22 = .ok (.ireturn, 1) := by decide +kernel
set_option maxRecDepth 20000 in
theorem ggX12_ramp_X12_isShore : GoodIn wsX12_ramp wsX12_isShore := goodIn_r _ [6] (by decide +kernel) (by decide +kernel)
set_option maxRecDepth 20000 in
theorem gX12_ramp_X12_isShore : GoodIn wsX12_ramp (va_wsS RX12 134 yX12_isShore wsX12_isShore) := goodIn_app (goodIn_of _ (by decide +kernel)) ggX12_ramp_X12_isShore
theorem dX12_ramp_0 : decode cX12_ramp 0 = .ok (.aload_n 0, 1) := by decide +kernel
theorem dX12_ramp_1 : decode cX12_ramp 1 = .ok (.iconst 0, 1) := by decide +kernel
theorem dX12_ramp_2 : decode cX12_ramp 2 = .ok (.putfield 1, 3) := by decide +kernel
theorem dX12_ramp_5 : decode cX12_ramp 5 = .ok (.iload_n 1, 1) := by decide +kernel
theorem dX12_ramp_6 : decode cX12_ramp 6 = .ok (.invokestatic 134, 3) := by decide +kernel
theorem dX12_ramp_9 : decode cX12_ramp 9 = .ok (.ifCond .eq 13, 3) := by decide +kernel
theorem dX12_ramp_12 : decode cX12_ramp 12 = .ok (.aload_n 0, 1) := by decide +kernel
theorem dX12_ramp_13 : decode cX12_ramp 13 = .ok (.getfield 25, 3) := by decide +kernel
theorem dX12_ramp_16 : decode cX12_ramp 16 = .ok (.iload_n 1, 1) := by decide +kernel
theorem dX12_ramp_17 : decode cX12_ramp 17 = .ok (.baload, 1) := by decide +kernel
theorem dX12_ramp_18 : decode cX12_ramp 18 = .ok (.iload_n 2, 1) := by decide +kernel
theorem dX12_ramp_19 : decode cX12_ramp 19 = .ok (.if_icmp .ne 5, 3) := by decide +kernel
theorem dX12_ramp_22 : decode cX12_ramp 22 = .ok (.iconst 0, 1) := by decide +kernel
theorem dX12_ramp_23 : decode cX12_ramp 23 = .ok (.ireturn, 1) := by decide +kernel
theorem dX12_ramp_24 : decode cX12_ramp 24 = .ok (.aload_n 0, 1) := by decide +kernel
theorem dX12_ramp_25 : decode cX12_ramp 25 = .ok (.getfield 25, 3) := by decide +kernel
theorem dX12_ramp_28 : decode cX12_ramp 28 = .ok (.iload_n 1, 1) := by decide +kernel
theorem dX12_ramp_29 : decode cX12_ramp 29 = .ok (.iload_n 2, 1) := by decide +kernel
theorem dX12_ramp_30 : decode cX12_ramp 30 = .ok (.bastore, 1) := by decide +kernel
theorem dX12_ramp_31 : decode cX12_ramp 31 = .ok (.iconst 1, 1) := by decide +kernel
theorem dX12_ramp_32 : decode cX12_ramp 32 = .ok (.ireturn, 1) := by decide +kernel
theorem dX12_isRampOpen_0 : decode cX12_isRampOpen 0 = .ok (.iconst (-1), 1) := by decide +kernel
theorem dX12_isRampOpen_1 : decode cX12_isRampOpen 1 = .ok (.istore_n 2, 1) := by decide +kernel
theorem dX12_isRampOpen_2 : decode cX12_isRampOpen 2 = .ok (.iconst 0, 1) := by decide +kernel
theorem dX12_isRampOpen_3 : decode cX12_isRampOpen 3 = .ok (.istore_n 3, 1) := by decide +kernel
theorem dX12_isRampOpen_4 : decode cX12_isRampOpen 4 = .ok (.iload_n 3, 1) := by decide +kernel
theorem dX12_isRampOpen_5 : decode cX12_isRampOpen 5 = .ok (.aload_n 0, 1) := by decide +kernel
theorem dX12_isRampOpen_6 : decode cX12_isRampOpen 6 = .ok (.getfield 155, 3) := by decide +kernel
theorem dX12_isRampOpen_9 : decode cX12_isRampOpen 9 = .ok (.if_icmp .ge 54, 3) := by decide +kernel
theorem dX12_isRampOpen_63 : decode cX12_isRampOpen 63 = .ok (.iload_n 2, 1) := by decide +kernel
theorem dX12_isRampOpen_64 : decode cX12_isRampOpen 64 = .ok (.iconst (-1), 1) := by decide +kernel
theorem dX12_isRampOpen_65 : decode cX12_isRampOpen 65 = .ok (.if_icmp .eq 12, 3) := by decide +kernel
theorem dX12_isRampOpen_77 : decode cX12_isRampOpen 77 = .ok (.iconst 0, 1) := by decide +kernel
theorem dX12_isRampOpen_78 : decode cX12_isRampOpen 78 = .ok (.ireturn, 1) := by decide +kernel
set_option maxRecDepth 20000 in
theorem ggX12_isOpen_X12_isShore : GoodIn wsX12_isOpen wsX12_isShore := goodIn_r _ [5] (by decide +kernel) (by decide +kernel)
