set_option maxRecDepth 20000 in
theorem gX12_isOpen_X12_isShore : GoodIn wsX12_isOpen (va_wsS RX12 134 yX12_isShore wsX12_isShore) := goodIn_app (goodIn_of _ (by decide +kernel)) ggX12_isOpen_X12_isShore
set_option maxRecDepth 20000 in
theorem ggX12_isOpen_X12_isRampOpen : GoodIn wsX12_isOpen wsX12_isRampOpen := goodIn_r _ [9, 10, 11, 12, 13, 14, 15, 16, 17, 18, 19, 20, 4, 21, 22, 23, 24, 25, 26, 27, 28, 29, 30, 31, 32, 33, 34, 35, 36, 37, 38, 39, 40, 41, 42, 43, 44, 45, 46, 47, 48, 49, 50, 51, 52, 53, 54, 55, 56, 57, 58, 59, 60, 61, 62, 63, 64, 65, 66, 67, 68, 69, 70, 71, 72, 73, 74, 75, 76, 77, 78, 79, 80, 81, 82] (by decide +kernel) (by decide +kernel)
set_option maxRecDepth 20000 in
theorem gX12_isOpen_X12_isRampOpen : GoodIn wsX12_isOpen (wsV RX12 170 RX12 yX12_isRampOpen wsX12_isRampOpen) := goodIn_app (goodIn_of _ (by decide +kernel)) ggX12_isOpen_X12_isRampOpen
theorem dX12_isOpen_0 : decode cX12_isOpen 0 = .ok (.aload_n 0, 1) := by decide +kernel
theorem dX12_isOpen_1 : decode cX12_isOpen 1 = .ok (.iconst 0, 1) := by decide +kernel
theorem dX12_isOpen_2 : decode cX12_isOpen 2 = .ok (.putfield 1, 3) := by decide +kernel
theorem dX12_isOpen_5 : decode cX12_isOpen 5 = .ok (.iload_n 1, 1) := by decide +kernel
theorem dX12_isOpen_6 : decode cX12_isOpen 6 = .ok (.invokestatic 134, 3) := by decide +kernel
theorem dX12_isOpen_9 : decode cX12_isOpen 9 = .ok (.ifCond .ne 10, 3) := by decide +kernel
theorem dX12_isOpen_12 : decode cX12_isOpen 12 = .ok (.aload_n 0, 1) := by decide +kernel
theorem dX12_isOpen_13 : decode cX12_isOpen 13 = .ok (.iconst 1, 1) := by decide +kernel
theorem dX12_isOpen_14 : decode cX12_isOpen 14 = .ok (.putfield 1, 3) := by decide +kernel
theorem dX12_isOpen_17 : decode cX12_isOpen 17 = .ok (.iconst 0, 1) := by decide +kernel
theorem dX12_isOpen_18 : decode cX12_isOpen 18 = .ok (.ireturn, 1) := by decide +kernel
theorem dX12_isOpen_19 : decode cX12_isOpen 19 = .ok (.aload_n 0, 1) := by decide +kernel
theorem dX12_isOpen_20 : decode cX12_isOpen 20 = .ok (.iload_n 1, 1) := by decide +kernel
theorem dX12_isOpen_21 : decode cX12_isOpen 21 = .ok (.invokevirtual 170, 3) := by decide +kernel
theorem dX12_isOpen_24 : decode cX12_isOpen 24 = .ok (.ireturn, 1) := by decide +kernel
set_option maxRecDepth 20000 in
theorem ggX12_ticks_X12_within : GoodIn wsX12_ticks wsX12_within := goodIn_r _ [6] (by decide +kernel) (by decide +kernel)
set_option maxRecDepth 20000 in
theorem gX12_ticks_X12_within : GoodIn wsX12_ticks (va_wsS RX12 126 yX12_within wsX12_within) := goodIn_app (goodIn_of _ (by decide +kernel)) ggX12_ticks_X12_within
set_option maxRecDepth 20000 in
theorem ggX12_ticks_X12_goes : GoodIn wsX12_ticks wsX12_goes := goodIn_r _ [10, 11, 12, 13, 14, 2, 15, 16, 17, 18, 19, 20, 5, 21, 22, 23, 24, 25, 26, 27, 28, 29, 30, 31, 32, 33, 34, 35, 36, 37, 38, 39, 40, 41, 42, 43, 44, 45, 46, 47, 48, 49, 50, 51, 52, 53, 54, 55, 56, 57, 58, 59, 60, 61, 62, 63, 64, 65, 66, 67, 68, 69, 70, 71, 72, 73, 74, 75, 76, 77, 78, 79, 80, 81, 82, 83, 84, 85, 86, 87, 88, 89, 90, 91, 92, 93, 94, 95, 96, 97, 98, 99, 100, 101, 102, 103, 104, 105, 106, 107, 108, 109, 110, 111, 112, 113, 114] (by decide +kernel) (by decide +kernel)
set_option maxRecDepth 20000 in
theorem gX12_ticks_X12_goes : GoodIn wsX12_ticks (wsV RX12 173 RX12 yX12_goes wsX12_goes) := goodIn_app (goodIn_of _ (by decide +kernel)) ggX12_ticks_X12_goes
theorem dX12_ticks_0 : decode cX12_ticks 0 = .ok (.aload_n 0, 1) := by decide +kernel
theorem dX12_ticks_1 : decode cX12_ticks 1 = .ok (.iconst 0, 1) := by decide +kernel
theorem dX12_ticks_2 : decode cX12_ticks 2 = .ok (.putfield 1, 3) := by decide +kernel
theorem dX12_ticks_5 : decode cX12_ticks 5 = .ok (.iload_n 1, 1) := by decide +kernel
theorem dX12_ticks_6 : decode cX12_ticks 6 = .ok (.iconst 1, 1) := by decide +kernel
theorem dX12_ticks_7 : decode cX12_ticks 7 = .ok (.sipush 200, 3) := by decide +kernel
theorem dX12_ticks_10 : decode cX12_ticks 10 = .ok (.invokestatic 126, 3) := by decide +kernel
theorem dX12_ticks_13 : decode cX12_ticks 13 = .ok (.ifCond .ne 5, 3) := by decide +kernel
theorem dX12_ticks_16 : decode cX12_ticks 16 = .ok (.iconst (-1), 1) := by decide +kernel
theorem dX12_ticks_17 : decode cX12_ticks 17 = .ok (.ireturn, 1) := by decide +kernel
theorem dX12_ticks_18 : decode cX12_ticks 18 = .ok (.iconst 0, 1) := by decide +kernel
theorem dX12_ticks_19 : decode cX12_ticks 19 = .ok (.istore_n 2, 1) := by decide +kernel
theorem dX12_ticks_20 : decode cX12_ticks 20 = .ok (.iload_n 2, 1) := by decide +kernel
theorem dX12_ticks_21 : decode cX12_ticks 21 = .ok (.iload_n 1, 1) := by decide +kernel
theorem dX12_ticks_22 : decode cX12_ticks 22 = .ok (.if_icmp .ge 13, 3) := by decide +kernel
theorem dX12_ticks_25 : decode cX12_ticks 25 = .ok (.aload_n 0, 1) := by decide +kernel
theorem dX12_ticks_26 : decode cX12_ticks 26 = .ok (.invokevirtual 173, 3) := by decide +kernel
theorem dX12_ticks_29 : decode cX12_ticks 29 = .ok (.iinc 2 1, 3) := by decide +kernel
theorem dX12_ticks_32 : decode cX12_ticks 32 = .ok (.goto (-12), 3) := by decide +kernel
theorem dX12_ticks_35 : decode cX12_ticks 35 = .ok (.aload_n 0, 1) := by decide +kernel
theorem dX12_ticks_36 : decode cX12_ticks 36 = .ok (.getfield 152, 3) := by decide +kernel
theorem dX12_ticks_39 : decode cX12_ticks 39 = .ok (.ireturn, 1) := by decide +kernel
theorem dX12_cause_0 : decode cX12_cause 0 = .ok (.aload_n 0, 1) := by decide +kernel
theorem dX12_cause_1 : decode cX12_cause 1 = .ok (.getfield 158, 3) := by decide +kernel
theorem dX12_cause_4 : decode cX12_cause 4 = .ok (.iconst 5, 1) := by decide +kernel
theorem dX12_cause_5 : decode cX12_cause 5 = .ok (.if_icmp .ne 7, 3) := by decide +kernel
theorem dX12_cause_12 : decode cX12_cause 12 = .ok (.iload_n 2, 1) := by decide +kernel
theorem dX12_cause_13 : decode cX12_cause 13 = .ok (.ifCond .ne 7, 3) := by decide +kernel
theorem dX12_cause_16 : decode cX12_cause 16 = .ok (.iconst 1, 1) := by decide +kernel
theorem dX12_cause_17 : decode cX12_cause 17 = .ok (.goto 16, 3) := by decide +kernel
theorem dX12_cause_33 : decode cX12_cause 33 = .ok (.ireturn, 1) := by decide +kernel
set_option maxRecDepth 20000 in
theorem ggX12_goes_X12_inForce : GoodIn wsX12_goes wsX12_inForce := goodIn_r _ [13, 14, 15, 5, 52, 53, 54, 55, 56, 57, 58, 59, 60, 61, 62, 63, 64, 65, 66, 67, 68, 69, 70, 71, 72, 73, 74, 75, 76, 77, 78, 79, 80, 81, 82, 83, 84, 85, 86, 87, 88, 89, 90, 91, 92, 93, 94, 95, 96, 97, 98, 99, 100, 101, 102, 103, 104, 105, 106] (by decide +kernel) (by decide +kernel)
set_option maxRecDepth 20000 in
theorem gX12_goes_X12_inForce : GoodIn wsX12_goes (wsV RX12 176 RX12 yX12_inForce wsX12_inForce) := goodIn_app (goodIn_of _ (by decide +kernel)) ggX12_goes_X12_inForce
set_option maxRecDepth 20000 in
theorem ggX12_goes_X12_isRampOpen : GoodIn wsX12_goes wsX12_isRampOpen := goodIn_r _ [19, 20, 21, 22, 5, 23, 24, 6, 25, 26, 27, 28, 12, 29, 1, 30, 2, 31, 32, 33, 52, 53, 54, 55, 56, 57, 58, 59, 60, 61, 62, 63, 64, 65, 66, 67, 68, 69, 70, 71, 72, 73, 74, 75, 76, 77, 78, 79, 80, 81, 82, 83, 84, 85, 86, 87, 88, 89, 90, 91, 92, 93, 94, 95, 96, 97, 98, 99, 100, 101, 102, 103, 104, 105, 106] (by decide +kernel) (by decide +kernel)
set_option maxRecDepth 20000 in
theorem gX12_goes_X12_isRampOpen : GoodIn wsX12_goes (wsV RX12 170 RX12 yX12_isRampOpen wsX12_isRampOpen) := goodIn_app (goodIn_of _ (by decide +kernel)) ggX12_goes_X12_isRampOpen
set_option maxRecDepth 20000 in
theorem ggX12_goes_X12_cause : GoodIn wsX12_goes wsX12_cause := goodIn_r _ [37, 38, 6, 52, 53, 54, 55, 56, 57, 58, 59, 60, 61, 62, 63, 64, 65, 66, 67, 68, 69, 70, 71, 72, 73, 74, 75, 76, 77, 78, 79, 80, 81, 82, 83, 84, 85, 86, 87, 88, 89, 90, 91, 92, 93, 94, 95, 96, 97, 98, 99, 100, 101, 102, 103, 104, 105, 106] (by decide +kernel) (by decide +kernel)
set_option maxRecDepth 20000 in
theorem gX12_goes_X12_cause : GoodIn wsX12_goes (wsV RX12 179 RX12 yX12_cause wsX12_cause) := goodIn_app (goodIn_of _ (by decide +kernel)) ggX12_goes_X12_cause
set_option maxRecDepth 20000 in
theorem ggX12_goes_X12_yardRow : GoodIn wsX12_goes wsX12_yardRow := goodIn_r _ [41] (by decide +kernel) (by decide +kernel)
set_option maxRecDepth 20000 in
theorem gX12_goes_X12_yardRow : GoodIn wsX12_goes (va_wsS RX12 141 yX12_yardRow wsX12_yardRow) := goodIn_app (goodIn_of _ (by decide +kernel)) ggX12_goes_X12_yardRow
theorem dX12_goes_0 : decode cX12_goes 0 = .ok (.aload_n 0, 1) := by decide +kernel
theorem dX12_goes_1 : decode cX12_goes 1 = .ok (.invokevirtual 176, 3) := by decide +kernel
theorem dX12_goes_4 : decode cX12_goes 4 = .ok (.istore_n 1, 1) := by decide +kernel
theorem dX12_goes_5 : decode cX12_goes 5 = .ok (.iconst 0, 1) := by decide +kernel
theorem dX12_goes_6 : decode cX12_goes 6 = .ok (.istore_n 2, 1) := by decide +kernel
theorem dX12_goes_7 : decode cX12_goes 7 = .ok (.iload_n 2, 1) := by decide +kernel
theorem dX12_goes_8 : decode cX12_goes 8 = .ok (.iconst 2, 1) := by decide +kernel
theorem dX12_goes_9 : decode cX12_goes 9 = .ok (.if_icmp .ge 108, 3) := by decide +kernel
theorem dX12_goes_12 : decode cX12_goes 12 = .ok (.aload_n 0, 1) := by decide +kernel
theorem dX12_goes_13 : decode cX12_goes 13 = .ok (.iload_n 2, 1) := by decide +kernel
theorem dX12_goes_14 : decode cX12_goes 14 = .ok (.aload_n 0, 1) := by decide +kernel
theorem dX12_goes_15 : decode cX12_goes 15 = .ok (.iload_n 2, 1) := by decide +kernel
theorem dX12_goes_16 : decode cX12_goes 16 = .ok (.invokevirtual 170, 3) := by decide +kernel
theorem dX12_goes_19 : decode cX12_goes 19 = .ok (.invokevirtual 179, 3) := by decide +kernel
theorem dX12_goes_22 : decode cX12_goes 22 = .ok (.istore_n 3, 1) := by decide +kernel
theorem dX12_goes_23 : decode cX12_goes 23 = .ok (.iconst 0, 1) := by decide +kernel
theorem dX12_goes_24 : decode cX12_goes 24 = .ok (.istore 4, 2) := by decide +kernel
theorem dX12_goes_26 : decode cX12_goes 26 = .ok (.iload 4, 2) := by decide +kernel
theorem dX12_goes_28 : decode cX12_goes 28 = .ok (.iconst 3, 1) := by decide +kernel
theorem dX12_goes_29 : decode cX12_goes 29 = .ok (.if_icmp .ge 82, 3) := by decide +kernel
theorem dX12_goes_32 : decode cX12_goes 32 = .ok (.iload_n 2, 1) := by decide +kernel
theorem dX12_goes_33 : decode cX12_goes 33 = .ok (.iload 4, 2) := by decide +kernel
theorem dX12_goes_35 : decode cX12_goes 35 = .ok (.invokestatic 141, 3) := by decide +kernel
theorem dX12_goes_38 : decode cX12_goes 38 = .ok (.istore 5, 2) := by decide +kernel
theorem dX12_goes_40 : decode cX12_goes 40 = .ok (.iconst 0, 1) := by decide +kernel
theorem dX12_goes_41 : decode cX12_goes 41 = .ok (.istore 6, 2) := by decide +kernel
theorem dX12_goes_43 : decode cX12_goes 43 = .ok (.iload 6, 2) := by decide +kernel
theorem dX12_goes_45 : decode cX12_goes 45 = .ok (.aload_n 0, 1) := by decide +kernel
theorem dX12_goes_46 : decode cX12_goes 46 = .ok (.getfield 58, 3) := by decide +kernel
theorem dX12_goes_49 : decode cX12_goes 49 = .ok (.iload 5, 2) := by decide +kernel
theorem dX12_goes_51 : decode cX12_goes 51 = .ok (.iaload, 1) := by decide +kernel
theorem dX12_goes_52 : decode cX12_goes 52 = .ok (.if_icmp .ge 53, 3) := by decide +kernel
theorem dX12_goes_105 : decode cX12_goes 105 = .ok (.iinc 4 1, 3) := by decide +kernel
theorem dX12_goes_108 : decode cX12_goes 108 = .ok (.goto (-82), 3) := by decide +kernel
theorem dX12_goes_111 : decode cX12_goes 111 = .ok (.iinc 2 1, 3) := by decide +kernel
theorem dX12_goes_114 : decode cX12_goes 114 = .ok (.goto (-107), 3) := by decide +kernel
theorem dX12_goes_117 : decode cX12_goes 117 = .ok (.aload_n 0, 1) := by decide +kernel
theorem dX12_goes_118 : decode cX12_goes 118 = .ok (.dup, 1) := by decide +kernel
theorem dX12_goes_119 : decode cX12_goes 119 = .ok (.getfield 152, 3) := by decide +kernel
theorem dX12_goes_122 : decode cX12_goes 122 = .ok (.iconst 1, 1) := by decide +kernel
theorem dX12_goes_123 : decode cX12_goes 123 = .ok (.iadd, 1) := by decide +kernel
theorem dX12_goes_124 : decode cX12_goes 124 = .ok (.putfield 152, 3) := by decide +kernel
theorem dX12_goes_127 : decode cX12_goes 127 = .ok (.aload_n 0, 1) := by decide +kernel
theorem dX12_goes_128 : decode cX12_goes 128 = .ok (.getfield 161, 3) := by decide +kernel
theorem dX12_goes_131 : decode cX12_goes 131 = .ok (.iconst 2, 1) := by decide +kernel
theorem dX12_goes_132 : decode cX12_goes 132 = .ok (.if_icmp .ne 22, 3) := by decide +kernel
theorem dX12_goes_154 : decode cX12_goes 154 = .ok (.return_, 1) := by decide +kernel
theorem dX12_inForce_0 : decode cX12_inForce 0 = .ok (.iconst (-1), 1) := by decide +kernel
theorem dX12_inForce_1 : decode cX12_inForce 1 = .ok (.istore_n 1, 1) := by decide +kernel
theorem dX12_inForce_2 : decode cX12_inForce 2 = .ok (.iconst 0, 1) := by decide +kernel
theorem dX12_inForce_3 : decode cX12_inForce 3 = .ok (.istore_n 2, 1) := by decide +kernel
theorem dX12_inForce_4 : decode cX12_inForce 4 = .ok (.iload_n 2, 1) := by decide +kernel
theorem dX12_inForce_5 : decode cX12_inForce 5 = .ok (.aload_n 0, 1) := by decide +kernel
theorem dX12_inForce_6 : decode cX12_inForce 6 = .ok (.getfield 193, 3) := by decide +kernel
theorem dX12_inForce_9 : decode cX12_inForce 9 = .ok (.if_icmp .ge 44, 3) := by decide +kernel
theorem dX12_inForce_53 : decode cX12_inForce 53 = .ok (.iload_n 1, 1) := by decide +kernel
theorem dX12_inForce_54 : decode cX12_inForce 54 = .ok (.ireturn, 1) := by decide +kernel
theorem dX12_feed_0 : decode cX12_feed 0 = .ok (.aload_n 0, 1) := by decide +kernel
theorem dX12_feed_1 : decode cX12_feed 1 = .ok (.iconst 0, 1) := by decide +kernel
theorem dX12_feed_2 : decode cX12_feed 2 = .ok (.putfield 1, 3) := by decide +kernel
theorem dX12_feed_5 : decode cX12_feed 5 = .ok (.aload_n 0, 1) := by decide +kernel
theorem dX12_feed_6 : decode cX12_feed 6 = .ok (.getfield 196, 3) := by decide +kernel
theorem dX12_feed_9 : decode cX12_feed 9 = .ok (.bipush 20, 2) := by decide +kernel
theorem dX12_feed_11 : decode cX12_feed 11 = .ok (.iadd, 1) := by decide +kernel
theorem dX12_feed_12 : decode cX12_feed 12 = .ok (.sipush 300, 3) := by decide +kernel
theorem dX12_feed_15 : decode cX12_feed 15 = .ok (.if_icmp .le 5, 3) := by decide +kernel
theorem dX12_feed_20 : decode cX12_feed 20 = .ok (.iconst 0, 1) := by decide +kernel
theorem dX12_feed_21 : decode cX12_feed 21 = .ok (.istore 6, 2) := by decide +kernel
theorem dX12_feed_23 : decode cX12_feed 23 = .ok (.iload 6, 2) := by decide +kernel
theorem dX12_feed_25 : decode cX12_feed 25 = .ok (.bipush 20, 2) := by decide +kernel
theorem dX12_feed_27 : decode cX12_feed 27 = .ok (.if_icmp .ge 90, 3) := by decide +kernel
theorem dX12_feed_30 : decode cX12_feed 30 = .ok (.iload 6, 2) := by decide +kernel
theorem dX12_feed_32 : decode cX12_feed 32 = .ok (.iconst 4, 1) := by decide +kernel
theorem dX12_feed_33 : decode cX12_feed 33 = .ok (.if_icmp .ge 7, 3) := by decide +kernel
theorem dX12_feed_36 : decode cX12_feed 36 = .ok (.iload_n 1, 1) := by decide +kernel
theorem dX12_feed_37 : decode cX12_feed 37 = .ok (.goto 39, 3) := by decide +kernel
theorem dX12_feed_40 : decode cX12_feed 40 = .ok (.iload 6, 2) := by decide +kernel
theorem dX12_feed_42 : decode cX12_feed 42 = .ok (.bipush 8, 2) := by decide +kernel
theorem dX12_feed_44 : decode cX12_feed 44 = .ok (.if_icmp .ge 7, 3) := by decide +kernel
theorem dX12_feed_47 : decode cX12_feed 47 = .ok (.iload_n 2, 1) := by decide +kernel
theorem dX12_feed_48 : decode cX12_feed 48 = .ok (.goto 28, 3) := by decide +kernel
theorem dX12_feed_51 : decode cX12_feed 51 = .ok (.iload 6, 2) := by decide +kernel
theorem dX12_feed_53 : decode cX12_feed 53 = .ok (.bipush 12, 2) := by decide +kernel
theorem dX12_feed_55 : decode cX12_feed 55 = .ok (.if_icmp .ge 7, 3) := by decide +kernel
theorem dX12_feed_58 : decode cX12_feed 58 = .ok (.iload_n 3, 1) := by decide +kernel
theorem dX12_feed_59 : decode cX12_feed 59 = .ok (.goto 17, 3) := by decide +kernel
theorem dX12_feed_62 : decode cX12_feed 62 = .ok (.iload 6, 2) := by decide +kernel
theorem dX12_feed_64 : decode cX12_feed 64 = .ok (.bipush 16, 2) := by decide +kernel
theorem dX12_feed_66 : decode cX12_feed 66 = .ok (.if_icmp .ge 8, 3) := by decide +kernel
theorem dX12_feed_69 : decode cX12_feed 69 = .ok (.iload 4, 2) := by decide +kernel
theorem dX12_feed_71 : decode cX12_feed 71 = .ok (.goto 5, 3) := by decide +kernel
theorem dX12_feed_74 : decode cX12_feed 74 = .ok (.iload 5, 2) := by decide +kernel
theorem dX12_feed_76 : decode cX12_feed 76 = .ok (.istore 7, 2) := by decide +kernel
theorem dX12_feed_78 : decode cX12_feed 78 = .ok (.aload_n 0, 1) := by decide +kernel
theorem dX12_feed_79 : decode cX12_feed 79 = .ok (.getfield 82, 3) := by decide +kernel
theorem dX12_feed_82 : decode cX12_feed 82 = .ok (.aload_n 0, 1) := by decide +kernel
theorem dX12_feed_83 : decode cX12_feed 83 = .ok (.getfield 196, 3) := by decide +kernel
theorem dX12_feed_86 : decode cX12_feed 86 = .ok (.iload 7, 2) := by decide +kernel
theorem dX12_feed_88 : decode cX12_feed 88 = .ok (.bipush 24, 2) := by decide +kernel
theorem dX12_feed_90 : decode cX12_feed 90 = .ok (.bipush 8, 2) := by decide +kernel
theorem dX12_feed_92 : decode cX12_feed 92 = .ok (.iload 6, 2) := by decide +kernel
theorem dX12_feed_94 : decode cX12_feed 94 = .ok (.iconst 4, 1) := by decide +kernel
theorem dX12_feed_95 : decode cX12_feed 95 = .ok (.irem, 1) := by decide +kernel
theorem dX12_feed_96 : decode cX12_feed 96 = .ok (.imul, 1) := by decide +kernel
theorem dX12_feed_97 : decode cX12_feed 97 = .ok (.isub, 1) := by decide +kernel
theorem dX12_feed_98 : decode cX12_feed 98 = .ok (.ishr, 1) := by decide +kernel
theorem dX12_feed_99 : decode cX12_feed 99 = .ok (.i2b, 1) := by decide +kernel
theorem dX12_feed_100 : decode cX12_feed 100 = .ok (.bastore, 1) := by decide +kernel
theorem dX12_feed_101 : decode cX12_feed 101 = .ok (.aload_n 0, 1) := by decide +kernel
theorem dX12_feed_102 : decode cX12_feed 102 = .ok (.dup, 1) := by decide +kernel
theorem dX12_feed_103 : decode cX12_feed 103 = .ok (.getfield 196, 3) := by decide +kernel
theorem dX12_feed_106 : decode cX12_feed 106 = .ok (.iconst 1, 1) := by decide +kernel
theorem dX12_feed_107 : decode cX12_feed 107 = .ok (.iadd, 1) := by decide +kernel
theorem dX12_feed_108 : decode cX12_feed 108 = .ok (.putfield 196, 3) := by decide +kernel
theorem dX12_feed_111 : decode cX12_feed 111 = .ok (.iinc 6 1, 3) := by decide +kernel
theorem dX12_feed_114 : decode cX12_feed 114 = .ok (.goto (-91), 3) := by decide +kernel
theorem dX12_feed_117 : decode cX12_feed 117 = .ok (.aload_n 0, 1) := by decide +kernel
theorem dX12_feed_118 : decode cX12_feed 118 = .ok (.getfield 196, 3) := by decide +kernel
theorem dX12_feed_121 : decode cX12_feed 121 = .ok (.ireturn, 1) := by decide +kernel
theorem dX12_end_0 : decode cX12_end 0 = .ok (.aload_n 0, 1) := by decide +kernel
theorem dX12_end_1 : decode cX12_end 1 = .ok (.iconst 0, 1) := by decide +kernel
theorem dX12_end_2 : decode cX12_end 2 = .ok (.putfield 1, 3) := by decide +kernel
theorem dX12_end_5 : decode cX12_end 5 = .ok (.iload_n 1, 1) := by decide +kernel
theorem dX12_end_6 : decode cX12_end 6 = .ok (.ifCond .lt 11, 3) := by decide +kernel
theorem dX12_end_9 : decode cX12_end 9 = .ok (.iload_n 1, 1) := by decide +kernel
theorem dX12_end_10 : decode cX12_end 10 = .ok (.aload_n 0, 1) := by decide +kernel
theorem dX12_end_11 : decode cX12_end 11 = .ok (.getfield 196, 3) := by decide +kernel
theorem dX12_end_14 : decode cX12_end 14 = .ok (.if_icmp .le 5, 3) := by decide +kernel
theorem dX12_end_17 : decode cX12_end 17 = .ok (.iconst (-1), 1) := by decide +kernel
theorem dX12_end_18 : decode cX12_end 18 = .ok (.ireturn, 1) := by decide +kernel
theorem dX12_end_19 : decode cX12_end 19 = .ok (.aload_n 0, 1) := by decide +kernel
theorem dX12_end_20 : decode cX12_end 20 = .ok (.iload_n 1, 1) := by decide +kernel
theorem dX12_end_21 : decode cX12_end 21 = .ok (.putfield 196, 3) := by decide +kernel
theorem dX12_end_24 : decode cX12_end 24 = .ok (.iload_n 1, 1) := by decide +kernel
theorem dX12_end_25 : decode cX12_end 25 = .ok (.ireturn, 1) := by decide +kernel
theorem dX12_next_0 : decode cX12_next 0 = .ok (.aload_n 0, 1) := by decide +kernel
theorem dX12_next_1 : decode cX12_next 1 = .ok (.getfield 199, 3) := by decide +kernel
theorem dX12_next_4 : decode cX12_next 4 = .ok (.aload_n 0, 1) := by decide +kernel
theorem dX12_next_5 : decode cX12_next 5 = .ok (.getfield 196, 3) := by decide +kernel
theorem dX12_next_8 : decode cX12_next 8 = .ok (.if_icmp .ge 44, 3) := by decide +kernel
theorem dX12_next_52 : decode cX12_next 52 = .ok (.aload_n 0, 1) := by decide +kernel
theorem dX12_next_53 : decode cX12_next 53 = .ok (.aload_n 0, 1) := by decide +kernel
theorem dX12_next_54 : decode cX12_next 54 = .ok (.getfield 199, 3) := by decide +kernel
theorem dX12_next_57 : decode cX12_next 57 = .ok (.putfield 202, 3) := by decide +kernel
theorem dX12_next_60 : decode cX12_next 60 = .ok (.aload_n 0, 1) := by decide +kernel
theorem dX12_next_61 : decode cX12_next 61 = .ok (.getfield 199, 3) := by decide +kernel
theorem dX12_next_64 : decode cX12_next 64 = .ok (.aload_n 0, 1) := by decide +kernel
theorem dX12_next_65 : decode cX12_next 65 = .ok (.getfield 196, 3) := by decide +kernel
theorem dX12_next_68 : decode cX12_next 68 = .ok (.if_icmp .lt 9, 3) := by decide +kernel
theorem dX12_next_71 : decode cX12_next 71 = .ok (.aload_n 0, 1) := by decide +kernel
theorem dX12_next_72 : decode cX12_next 72 = .ok (.iconst 0, 1) := by decide +kernel
theorem dX12_next_73 : decode cX12_next 73 = .ok (.putfield 205, 3) := by decide +kernel
theorem dX12_next_76 : decode cX12_next 76 = .ok (.return_, 1) := by decide +kernel
theorem dX12_isWell_0 : decode cX12_isWell 0 = .ok (.aload_n 0, 1) := by decide +kernel
theorem dX12_isWell_1 : decode cX12_isWell 1 = .ok (.getfield 228, 3) := by decide +kernel
theorem dX12_isWell_4 : decode cX12_isWell 4 = .ok (.ifCond .ne 7, 3) := by decide +kernel
theorem dX12_isWell_7 : decode cX12_isWell 7 = .ok (.iconst 1, 1) := by decide +kernel
theorem dX12_isWell_8 : decode cX12_isWell 8 = .ok (.goto 4, 3) := by decide +kernel
theorem dX12_isWell_12 : decode cX12_isWell 12 = .ok (.ireturn, 1) := by decide +kernel
set_option maxRecDepth 20000 in
theorem ggX12_agree_X12_within : GoodIn wsX12_agree wsX12_within := goodIn_r _ [17] (by decide +kernel) (by decide +kernel)
set_option maxRecDepth 20000 in
theorem gX12_agree_X12_within : GoodIn wsX12_agree (va_wsS RX12 126 yX12_within wsX12_within) := goodIn_app (goodIn_of _ (by decide +kernel)) ggX12_agree_X12_within
set_option maxRecDepth 20000 in
theorem ggX12_agree_X12_next : GoodIn wsX12_agree wsX12_next := goodIn_r _ [21, 5, 10, 22, 23, 9, 24, 25, 26, 16, 27, 28, 29, 30, 31, 32, 33, 34, 112, 113, 114, 115, 116, 117, 118, 119, 120, 121, 122, 123, 124, 125, 126, 127, 128, 129, 130, 131, 132, 133, 134, 135, 136, 137, 138, 139, 140, 141, 142, 143, 144, 145, 146, 147, 148, 149, 150, 151, 152, 153, 154, 155, 156, 157, 158, 159, 160, 161, 162, 163, 164, 165, 166] (by decide +kernel) (by decide +kernel)
set_option maxRecDepth 20000 in
theorem gX12_agree_X12_next : GoodIn wsX12_agree (wsV RX12 242 RX12 yX12_next wsX12_next) := goodIn_app (goodIn_of _ (by decide +kernel)) ggX12_agree_X12_next
set_option maxRecDepth 20000 in
theorem ggX12_agree_X12_isWell : GoodIn wsX12_agree wsX12_isWell := goodIn_r _ [38, 4, 112, 113, 114, 115, 116, 117, 118, 119, 120, 121, 122, 123, 124, 125, 126, 127, 128, 129, 130, 131, 132, 133, 134, 135, 136, 137, 138, 139, 140, 141, 142, 143, 144, 145, 146, 147, 148, 149, 150, 151, 152, 153, 154, 155, 156, 157, 158, 159, 160, 161, 162, 163, 164, 165, 166] (by decide +kernel) (by decide +kernel)
set_option maxRecDepth 20000 in
theorem gX12_agree_X12_isWell : GoodIn wsX12_agree (wsV RX12 234 RX12 yX12_isWell wsX12_isWell) := goodIn_app (goodIn_of _ (by decide +kernel)) ggX12_agree_X12_isWell
theorem dX12_agree_0 : decode cX12_agree 0 = .ok (.aload_n 0, 1) := by decide +kernel
theorem dX12_agree_1 : decode cX12_agree 1 = .ok (.iconst 0, 1) := by decide +kernel
theorem dX12_agree_2 : decode cX12_agree 2 = .ok (.putfield 1, 3) := by decide +kernel
theorem dX12_agree_5 : decode cX12_agree 5 = .ok (.iload_n 1, 1) := by decide +kernel
theorem dX12_agree_6 : decode cX12_agree 6 = .ok (.aload_n 0, 1) := by decide +kernel
theorem dX12_agree_7 : decode cX12_agree 7 = .ok (.getfield 152, 3) := by decide +kernel
theorem dX12_agree_10 : decode cX12_agree 10 = .ok (.sipush 5000, 3) := by decide +kernel
theorem dX12_agree_13 : decode cX12_agree 13 = .ok (.invokestatic 126, 3) := by decide +kernel
theorem dX12_agree_16 : decode cX12_agree 16 = .ok (.ifCond .eq 12, 3) := by decide +kernel
theorem dX12_agree_19 : decode cX12_agree 19 = .ok (.aload_n 0, 1) := by decide +kernel
theorem dX12_agree_20 : decode cX12_agree 20 = .ok (.getfield 193, 3) := by decide +kernel
theorem dX12_agree_23 : decode cX12_agree 23 = .ok (.bipush 20, 2) := by decide +kernel
theorem dX12_agree_25 : decode cX12_agree 25 = .ok (.if_icmp .ne 5, 3) := by decide +kernel
theorem dX12_agree_28 : decode cX12_agree 28 = .ok (.iconst (-1), 1) := by decide +kernel
theorem dX12_agree_29 : decode cX12_agree 29 = .ok (.ireturn, 1) := by decide +kernel
theorem dX12_agree_30 : decode cX12_agree 30 = .ok (.aload_n 0, 1) := by decide +kernel
theorem dX12_agree_31 : decode cX12_agree 31 = .ok (.iconst 0, 1) := by decide +kernel
theorem dX12_agree_32 : decode cX12_agree 32 = .ok (.putfield 228, 3) := by decide +kernel
theorem dX12_agree_35 : decode cX12_agree 35 = .ok (.aload_n 0, 1) := by decide +kernel
theorem dX12_agree_36 : decode cX12_agree 36 = .ok (.iconst 0, 1) := by decide +kernel
theorem dX12_agree_37 : decode cX12_agree 37 = .ok (.putfield 199, 3) := by decide +kernel
theorem dX12_agree_40 : decode cX12_agree 40 = .ok (.aload_n 0, 1) := by decide +kernel
theorem dX12_agree_41 : decode cX12_agree 41 = .ok (.getfield 73, 3) := by decide +kernel
theorem dX12_agree_44 : decode cX12_agree 44 = .ok (.bipush 20, 2) := by decide +kernel
theorem dX12_agree_46 : decode cX12_agree 46 = .ok (.iconst 0, 1) := by decide +kernel
theorem dX12_agree_47 : decode cX12_agree 47 = .ok (.iastore, 1) := by decide +kernel
theorem dX12_agree_48 : decode cX12_agree 48 = .ok (.iconst 0, 1) := by decide +kernel
theorem dX12_agree_49 : decode cX12_agree 49 = .ok (.istore_n 2, 1) := by decide +kernel
theorem dX12_agree_50 : decode cX12_agree 50 = .ok (.iload_n 2, 1) := by decide +kernel
theorem dX12_agree_51 : decode cX12_agree 51 = .ok (.iconst 4, 1) := by decide +kernel
theorem dX12_agree_52 : decode cX12_agree 52 = .ok (.if_icmp .ge 29, 3) := by decide +kernel
theorem dX12_agree_55 : decode cX12_agree 55 = .ok (.aload_n 0, 1) := by decide +kernel
theorem dX12_agree_56 : decode cX12_agree 56 = .ok (.getfield 76, 3) := by decide +kernel
theorem dX12_agree_59 : decode cX12_agree 59 = .ok (.bipush 80, 2) := by decide +kernel
theorem dX12_agree_61 : decode cX12_agree 61 = .ok (.iload_n 2, 1) := by decide +kernel
theorem dX12_agree_62 : decode cX12_agree 62 = .ok (.iadd, 1) := by decide +kernel
theorem dX12_agree_63 : decode cX12_agree 63 = .ok (.iconst 0, 1) := by decide +kernel
theorem dX12_agree_64 : decode cX12_agree 64 = .ok (.iastore, 1) := by decide +kernel
theorem dX12_agree_65 : decode cX12_agree 65 = .ok (.aload_n 0, 1) := by decide +kernel
theorem dX12_agree_66 : decode cX12_agree 66 = .ok (.getfield 79, 3) := by decide +kernel
theorem dX12_agree_69 : decode cX12_agree 69 = .ok (.bipush 80, 2) := by decide +kernel
theorem dX12_agree_71 : decode cX12_agree 71 = .ok (.iload_n 2, 1) := by decide +kernel
theorem dX12_agree_72 : decode cX12_agree 72 = .ok (.iadd, 1) := by decide +kernel
theorem dX12_agree_73 : decode cX12_agree 73 = .ok (.iconst 0, 1) := by decide +kernel
theorem dX12_agree_74 : decode cX12_agree 74 = .ok (.iastore, 1) := by decide +kernel
theorem dX12_agree_75 : decode cX12_agree 75 = .ok (.iinc 2 1, 3) := by decide +kernel
theorem dX12_agree_78 : decode cX12_agree 78 = .ok (.goto (-28), 3) := by decide +kernel
theorem dX12_agree_81 : decode cX12_agree 81 = .ok (.iconst 0, 1) := by decide +kernel
theorem dX12_agree_82 : decode cX12_agree 82 = .ok (.istore_n 2, 1) := by decide +kernel
theorem dX12_agree_83 : decode cX12_agree 83 = .ok (.aload_n 0, 1) := by decide +kernel
theorem dX12_agree_84 : decode cX12_agree 84 = .ok (.invokevirtual 242, 3) := by decide +kernel
theorem dX12_agree_87 : decode cX12_agree 87 = .ok (.aload_n 0, 1) := by decide +kernel
theorem dX12_agree_88 : decode cX12_agree 88 = .ok (.invokevirtual 234, 3) := by decide +kernel
theorem dX12_agree_91 : decode cX12_agree 91 = .ok (.ifCond .eq 62, 3) := by decide +kernel
theorem dX12_agree_94 : decode cX12_agree 94 = .ok (.aload_n 0, 1) := by decide +kernel
theorem dX12_agree_95 : decode cX12_agree 95 = .ok (.getfield 205, 3) := by decide +kernel
theorem dX12_agree_98 : decode cX12_agree 98 = .ok (.ifCond .eq 55, 3) := by decide +kernel
theorem dX12_agree_153 : decode cX12_agree 153 = .ok (.aload_n 0, 1) := by decide +kernel
theorem dX12_agree_154 : decode cX12_agree 154 = .ok (.iconst 0, 1) := by decide +kernel
theorem dX12_agree_155 : decode cX12_agree 155 = .ok (.putfield 196, 3) := by decide +kernel
theorem dX12_agree_158 : decode cX12_agree 158 = .ok (.aload_n 0, 1) := by decide +kernel
theorem dX12_agree_159 : decode cX12_agree 159 = .ok (.aload_n 0, 1) := by decide +kernel
theorem dX12_agree_160 : decode cX12_agree 160 = .ok (.invokevirtual 234, 3) := by decide +kernel
theorem dX12_agree_163 : decode cX12_agree 163 = .ok (.ifCond .eq 7, 3) := by decide +kernel
theorem dX12_agree_166 : decode cX12_agree 166 = .ok (.iconst (-1), 1) := by decide +kernel
theorem dX12_agree_167 : decode cX12_agree 167 = .ok (.goto 7, 3) := by decide +kernel
theorem dX12_agree_174 : decode cX12_agree 174 = .ok (.putfield 86, 3) := by decide +kernel
theorem dX12_agree_177 : decode cX12_agree 177 = .ok (.aload_n 0, 1) := by decide +kernel
theorem dX12_agree_178 : decode cX12_agree 178 = .ok (.invokevirtual 234, 3) := by decide +kernel
theorem dX12_agree_181 : decode cX12_agree 181 = .ok (.ifCond .ne 11, 3) := by decide +kernel
theorem dX12_agree_192 : decode cX12_agree 192 = .ok (.aload_n 0, 1) := by decide +kernel
theorem dX12_agree_193 : decode cX12_agree 193 = .ok (.getfield 70, 3) := by decide +kernel
theorem dX12_agree_196 : decode cX12_agree 196 = .ok (.aload_n 0, 1) := by decide +kernel
theorem dX12_agree_197 : decode cX12_agree 197 = .ok (.getfield 193, 3) := by decide +kernel
theorem dX12_agree_200 : decode cX12_agree 200 = .ok (.iload_n 1, 1) := by decide +kernel
theorem dX12_agree_201 : decode cX12_agree 201 = .ok (.iastore, 1) := by decide +kernel
theorem dX12_agree_202 : decode cX12_agree 202 = .ok (.aload_n 0, 1) := by decide +kernel
theorem dX12_agree_203 : decode cX12_agree 203 = .ok (.getfield 73, 3) := by decide +kernel
theorem dX12_agree_206 : decode cX12_agree 206 = .ok (.aload_n 0, 1) := by decide +kernel
theorem dX12_agree_207 : decode cX12_agree 207 = .ok (.getfield 193, 3) := by decide +kernel
theorem dX12_agree_210 : decode cX12_agree 210 = .ok (.aload_n 0, 1) := by decide +kernel
theorem dX12_agree_211 : decode cX12_agree 211 = .ok (.getfield 73, 3) := by decide +kernel
theorem dX12_agree_214 : decode cX12_agree 214 = .ok (.bipush 20, 2) := by decide +kernel
theorem dX12_agree_216 : decode cX12_agree 216 = .ok (.iaload, 1) := by decide +kernel
theorem dX12_agree_217 : decode cX12_agree 217 = .ok (.iastore, 1) := by decide +kernel
theorem dX12_agree_218 : decode cX12_agree 218 = .ok (.iconst 0, 1) := by decide +kernel
theorem dX12_agree_219 : decode cX12_agree 219 = .ok (.istore_n 3, 1) := by decide +kernel
theorem dX12_agree_220 : decode cX12_agree 220 = .ok (.iload_n 3, 1) := by decide +kernel
theorem dX12_agree_221 : decode cX12_agree 221 = .ok (.iconst 4, 1) := by decide +kernel
theorem dX12_agree_222 : decode cX12_agree 222 = .ok (.if_icmp .ge 53, 3) := by decide +kernel
theorem dX12_agree_225 : decode cX12_agree 225 = .ok (.aload_n 0, 1) := by decide +kernel
theorem dX12_agree_226 : decode cX12_agree 226 = .ok (.getfield 76, 3) := by decide +kernel
theorem dX12_agree_229 : decode cX12_agree 229 = .ok (.iconst 4, 1) := by decide +kernel
theorem dX12_agree_230 : decode cX12_agree 230 = .ok (.aload_n 0, 1) := by decide +kernel
theorem dX12_agree_231 : decode cX12_agree 231 = .ok (.getfield 193, 3) := by decide +kernel
theorem dX12_agree_234 : decode cX12_agree 234 = .ok (.imul, 1) := by decide +kernel
theorem dX12_agree_235 : decode cX12_agree 235 = .ok (.iload_n 3, 1) := by decide +kernel
theorem dX12_agree_236 : decode cX12_agree 236 = .ok (.iadd, 1) := by decide +kernel
theorem dX12_agree_237 : decode cX12_agree 237 = .ok (.aload_n 0, 1) := by decide +kernel
theorem dX12_agree_238 : decode cX12_agree 238 = .ok (.getfield 76, 3) := by decide +kernel
theorem dX12_agree_241 : decode cX12_agree 241 = .ok (.bipush 80, 2) := by decide +kernel
theorem dX12_agree_243 : decode cX12_agree 243 = .ok (.iload_n 3, 1) := by decide +kernel
theorem dX12_agree_244 : decode cX12_agree 244 = .ok (.iadd, 1) := by decide +kernel
theorem dX12_agree_245 : decode cX12_agree 245 = .ok (.iaload, 1) := by decide +kernel
theorem dX12_agree_246 : decode cX12_agree 246 = .ok (.iastore, 1) := by decide +kernel
theorem dX12_agree_247 : decode cX12_agree 247 = .ok (.aload_n 0, 1) := by decide +kernel
theorem dX12_agree_248 : decode cX12_agree 248 = .ok (.getfield 79, 3) := by decide +kernel
theorem dX12_agree_251 : decode cX12_agree 251 = .ok (.iconst 4, 1) := by decide +kernel
theorem dX12_agree_252 : decode cX12_agree 252 = .ok (.aload_n 0, 1) := by decide +kernel
theorem dX12_agree_253 : decode cX12_agree 253 = .ok (.getfield 193, 3) := by decide +kernel
theorem dX12_agree_256 : decode cX12_agree 256 = .ok (.imul, 1) := by decide +kernel
theorem dX12_agree_257 : decode cX12_agree 257 = .ok (.iload_n 3, 1) := by decide +kernel
theorem dX12_agree_258 : decode cX12_agree 258 = .ok (.iadd, 1) := by decide +kernel
theorem dX12_agree_259 : decode cX12_agree 259 = .ok (.aload_n 0, 1) := by decide +kernel
theorem dX12_agree_260 : decode cX12_agree 260 = .ok (.getfield 79, 3) := by decide +kernel
theorem dX12_agree_263 : decode cX12_agree 263 = .ok (.bipush 80, 2) := by decide +kernel
theorem dX12_agree_265 : decode cX12_agree 265 = .ok (.iload_n 3, 1) := by decide +kernel
theorem dX12_agree_266 : decode cX12_agree 266 = .ok (.iadd, 1) := by decide +kernel
theorem dX12_agree_267 : decode cX12_agree 267 = .ok (.iaload, 1) := by decide +kernel
theorem dX12_agree_268 : decode cX12_agree 268 = .ok (.iastore, 1) := by decide +kernel
theorem dX12_agree_269 : decode cX12_agree 269 = .ok (.iinc 3 1, 3) := by decide +kernel
theorem dX12_agree_272 : decode cX12_agree 272 = .ok (.goto (-52), 3) := by decide +kernel
theorem dX12_agree_275 : decode cX12_agree 275 = .ok (.aload_n 0, 1) := by decide +kernel
theorem dX12_agree_276 : decode cX12_agree 276 = .ok (.dup, 1) := by decide +kernel
theorem dX12_agree_277 : decode cX12_agree 277 = .ok (.getfield 193, 3) := by decide +kernel
theorem dX12_agree_280 : decode cX12_agree 280 = .ok (.iconst 1, 1) := by decide +kernel
theorem dX12_agree_281 : decode cX12_agree 281 = .ok (.iadd, 1) := by decide +kernel
theorem dX12_agree_282 : decode cX12_agree 282 = .ok (.putfield 193, 3) := by decide +kernel
theorem dX12_agree_285 : decode cX12_agree 285 = .ok (.aload_n 0, 1) := by decide +kernel
theorem dX12_agree_286 : decode cX12_agree 286 = .ok (.getfield 193, 3) := by decide +kernel
theorem dX12_agree_289 : decode cX12_agree 289 = .ok (.iconst 1, 1) := by decide +kernel
theorem dX12_agree_290 : decode cX12_agree 290 = .ok (.isub, 1) := by decide +kernel
theorem dX12_agree_291 : decode cX12_agree 291 = .ok (.ireturn, 1) := by decide +kernel
theorem dX12_place_0 : decode cX12_place 0 = .ok (.aload_n 0, 1) := by decide +kernel
theorem dX12_place_1 : decode cX12_place 1 = .ok (.iconst 0, 1) := by decide +kernel
theorem dX12_place_2 : decode cX12_place 2 = .ok (.putfield 1, 3) := by decide +kernel
theorem dX12_place_5 : decode cX12_place 5 = .ok (.aload_n 0, 1) := by decide +kernel
theorem dX12_place_6 : decode cX12_place 6 = .ok (.getfield 86, 3) := by decide +kernel
theorem dX12_place_9 : decode cX12_place 9 = .ok (.ireturn, 1) := by decide +kernel
set_option maxRecDepth 20000 in
theorem ggX12_on_X12_within : GoodIn wsX12_on wsX12_within := goodIn_r _ [11] (by decide +kernel) (by decide +kernel)
set_option maxRecDepth 20000 in
theorem gX12_on_X12_within : GoodIn wsX12_on (va_wsS RX12 126 yX12_within wsX12_within) := goodIn_app (goodIn_of _ (by decide +kernel)) ggX12_on_X12_within
set_option maxRecDepth 20000 in
theorem ggX12_on_X12_yardRow : GoodIn wsX12_on wsX12_yardRow := goodIn_r _ [14] (by decide +kernel) (by decide +kernel)
set_option maxRecDepth 20000 in
theorem gX12_on_X12_yardRow : GoodIn wsX12_on (va_wsS RX12 141 yX12_yardRow wsX12_yardRow) := goodIn_app (goodIn_of _ (by decide +kernel)) ggX12_on_X12_yardRow
theorem dX12_on_0 : decode cX12_on 0 = .ok (.aload_n 0, 1) := by decide +kernel
theorem dX12_on_1 : decode cX12_on 1 = .ok (.iconst 0, 1) := by decide +kernel
theorem dX12_on_2 : decode cX12_on 2 = .ok (.putfield 1, 3) := by decide +kernel
theorem dX12_on_5 : decode cX12_on 5 = .ok (.iload_n 2, 1) := by decide +kernel
theorem dX12_on_6 : decode cX12_on 6 = .ok (.iconst 0, 1) := by decide +kernel
theorem dX12_on_7 : decode cX12_on 7 = .ok (.iconst 3, 1) := by decide +kernel
theorem dX12_on_8 : decode cX12_on 8 = .ok (.invokestatic 126, 3) := by decide +kernel
theorem dX12_on_11 : decode cX12_on 11 = .ok (.ifCond .ne 5, 3) := by decide +kernel
theorem dX12_on_14 : decode cX12_on 14 = .ok (.iconst (-1), 1) := by decide +kernel
theorem dX12_on_15 : decode cX12_on 15 = .ok (.ireturn, 1) := by decide +kernel
theorem dX12_on_16 : decode cX12_on 16 = .ok (.aload_n 0, 1) := by decide +kernel
theorem dX12_on_17 : decode cX12_on 17 = .ok (.getfield 161, 3) := by decide +kernel
theorem dX12_on_20 : decode cX12_on 20 = .ok (.iconst 2, 1) := by decide +kernel
theorem dX12_on_21 : decode cX12_on 21 = .ok (.if_icmp .eq 30, 3) := by decide +kernel
theorem dX12_on_24 : decode cX12_on 24 = .ok (.iload_n 1, 1) := by decide +kernel
theorem dX12_on_25 : decode cX12_on 25 = .ok (.iconst 0, 1) := by decide +kernel
theorem dX12_on_26 : decode cX12_on 26 = .ok (.iconst 2, 1) := by decide +kernel
theorem dX12_on_27 : decode cX12_on 27 = .ok (.invokestatic 126, 3) := by decide +kernel
theorem dX12_on_30 : decode cX12_on 30 = .ok (.ifCond .eq 19, 3) := by decide +kernel
theorem dX12_on_33 : decode cX12_on 33 = .ok (.aload_n 0, 1) := by decide +kernel
theorem dX12_on_34 : decode cX12_on 34 = .ok (.getfield 58, 3) := by decide +kernel
theorem dX12_on_37 : decode cX12_on 37 = .ok (.aload_n 0, 1) := by decide +kernel
theorem dX12_on_38 : decode cX12_on 38 = .ok (.getfield 161, 3) := by decide +kernel
theorem dX12_on_41 : decode cX12_on 41 = .ok (.iload_n 1, 1) := by decide +kernel
theorem dX12_on_42 : decode cX12_on 42 = .ok (.invokestatic 141, 3) := by decide +kernel
theorem dX12_on_45 : decode cX12_on 45 = .ok (.iaload, 1) := by decide +kernel
theorem dX12_on_46 : decode cX12_on 46 = .ok (.ifCond .ne 5, 3) := by decide +kernel
theorem dX12_on_49 : decode cX12_on 49 = .ok (.iconst (-1), 1) := by decide +kernel
theorem dX12_on_50 : decode cX12_on 50 = .ok (.ireturn, 1) := by decide +kernel
set_option maxRecDepth 20000 in
theorem ggX12_off_X12_within : GoodIn wsX12_off wsX12_within := goodIn_r _ [11] (by decide +kernel) (by decide +kernel)
set_option maxRecDepth 20000 in
theorem gX12_off_X12_within : GoodIn wsX12_off (va_wsS RX12 126 yX12_within wsX12_within) := goodIn_app (goodIn_of _ (by decide +kernel)) ggX12_off_X12_within
theorem dX12_off_0 : decode cX12_off 0 = .ok (.aload_n 0, 1) := by decide +kernel
theorem dX12_off_1 : decode cX12_off 1 = .ok (.iconst 0, 1) := by decide +kernel
theorem dX12_off_2 : decode cX12_off 2 = .ok (.putfield 1, 3) := by decide +kernel
theorem dX12_off_5 : decode cX12_off 5 = .ok (.iload_n 1, 1) := by decide +kernel
theorem dX12_off_6 : decode cX12_off 6 = .ok (.iconst 0, 1) := by decide +kernel
theorem dX12_off_7 : decode cX12_off 7 = .ok (.iconst 3, 1) := by decide +kernel
theorem dX12_off_8 : decode cX12_off 8 = .ok (.invokestatic 126, 3) := by decide +kernel
theorem dX12_off_11 : decode cX12_off 11 = .ok (.ifCond .eq 29, 3) := by decide +kernel
theorem dX12_off_14 : decode cX12_off 14 = .ok (.aload_n 0, 1) := by decide +kernel
theorem dX12_off_15 : decode cX12_off 15 = .ok (.getfield 58, 3) := by decide +kernel
theorem dX12_off_18 : decode cX12_off 18 = .ok (.iload_n 1, 1) := by decide +kernel
theorem dX12_off_19 : decode cX12_off 19 = .ok (.iaload, 1) := by decide +kernel
theorem dX12_off_20 : decode cX12_off 20 = .ok (.ifCond .eq 20, 3) := by decide +kernel
theorem dX12_off_40 : decode cX12_off 40 = .ok (.iconst (-1), 1) := by decide +kernel
theorem dX12_off_41 : decode cX12_off 41 = .ok (.ireturn, 1) := by decide +kernel
theorem dX12_needed_0 : decode cX12_needed 0 = .ok (.iconst 0, 1) := by decide +kernel
theorem dX12_needed_1 : decode cX12_needed 1 = .ok (.istore_n 1, 1) := by decide +kernel
theorem dX12_needed_2 : decode cX12_needed 2 = .ok (.iconst 0, 1) := by decide +kernel
theorem dX12_needed_3 : decode cX12_needed 3 = .ok (.istore_n 2, 1) := by decide +kernel
theorem dX12_needed_4 : decode cX12_needed 4 = .ok (.iload_n 2, 1) := by decide +kernel
theorem dX12_needed_5 : decode cX12_needed 5 = .ok (.iconst 4, 1) := by decide +kernel
theorem dX12_needed_6 : decode cX12_needed 6 = .ok (.if_icmp .ge 73, 3) := by decide +kernel
theorem dX12_needed_9 : decode cX12_needed 9 = .ok (.iconst 0, 1) := by decide +kernel
theorem dX12_needed_10 : decode cX12_needed 10 = .ok (.istore_n 3, 1) := by decide +kernel
theorem dX12_needed_11 : decode cX12_needed 11 = .ok (.iload_n 3, 1) := by decide +kernel
theorem dX12_needed_12 : decode cX12_needed 12 = .ok (.aload_n 0, 1) := by decide +kernel
theorem dX12_needed_13 : decode cX12_needed 13 = .ok (.getfield 58, 3) := by decide +kernel
theorem dX12_needed_16 : decode cX12_needed 16 = .ok (.iload_n 2, 1) := by decide +kernel
theorem dX12_needed_17 : decode cX12_needed 17 = .ok (.iaload, 1) := by decide +kernel
theorem dX12_needed_18 : decode cX12_needed 18 = .ok (.if_icmp .ge 55, 3) := by decide +kernel
theorem dX12_needed_73 : decode cX12_needed 73 = .ok (.iinc 2 1, 3) := by decide +kernel
theorem dX12_needed_76 : decode cX12_needed 76 = .ok (.goto (-72), 3) := by decide +kernel
theorem dX12_needed_79 : decode cX12_needed 79 = .ok (.iload_n 1, 1) := by decide +kernel
theorem dX12_needed_80 : decode cX12_needed 80 = .ok (.ireturn, 1) := by decide +kernel
set_option maxRecDepth 20000 in
theorem ggX12_sail_X12_needed : GoodIn wsX12_sail wsX12_needed := goodIn_r _ [13, 14, 15, 16, 3, 17, 18, 19, 20, 21, 22, 23, 24, 25, 26, 27, 28, 29, 30, 31, 32, 33, 34, 35, 36, 37, 38, 39, 40, 41, 42, 43, 44, 45, 46, 47, 48, 49, 50, 51, 52, 53, 54, 55, 56, 57, 58, 59, 60, 61, 62, 63, 64, 65, 66, 67, 68, 69, 70, 71] (by decide +kernel) (by decide +kernel)
set_option maxRecDepth 20000 in
theorem gX12_sail_X12_needed : GoodIn wsX12_sail (wsV RX12 294 RX12 yX12_needed wsX12_needed) := goodIn_app (goodIn_of _ (by decide +kernel)) ggX12_sail_X12_needed
theorem dX12_sail_0 : decode cX12_sail 0 = .ok (.aload_n 0, 1) := by decide +kernel
theorem dX12_sail_1 : decode cX12_sail 1 = .ok (.iconst 0, 1) := by decide +kernel
theorem dX12_sail_2 : decode cX12_sail 2 = .ok (.putfield 1, 3) := by decide +kernel
theorem dX12_sail_5 : decode cX12_sail 5 = .ok (.aload_n 0, 1) := by decide +kernel
theorem dX12_sail_6 : decode cX12_sail 6 = .ok (.getfield 161, 3) := by decide +kernel
theorem dX12_sail_9 : decode cX12_sail 9 = .ok (.iconst 2, 1) := by decide +kernel
theorem dX12_sail_10 : decode cX12_sail 10 = .ok (.if_icmp .ne 5, 3) := by decide +kernel
theorem dX12_sail_15 : decode cX12_sail 15 = .ok (.aload_n 0, 1) := by decide +kernel
theorem dX12_sail_16 : decode cX12_sail 16 = .ok (.getfield 158, 3) := by decide +kernel
theorem dX12_sail_19 : decode cX12_sail 19 = .ok (.iconst 5, 1) := by decide +kernel
theorem dX12_sail_20 : decode cX12_sail 20 = .ok (.if_icmp .ne 6, 3) := by decide +kernel
theorem dX12_sail_26 : decode cX12_sail 26 = .ok (.aload_n 0, 1) := by decide +kernel
theorem dX12_sail_27 : decode cX12_sail 27 = .ok (.invokevirtual 294, 3) := by decide +kernel
theorem dX12_sail_30 : decode cX12_sail 30 = .ok (.aload_n 0, 1) := by decide +kernel
theorem dX12_sail_31 : decode cX12_sail 31 = .ok (.getfield 22, 3) := by decide +kernel
theorem dX12_sail_34 : decode cX12_sail 34 = .ok (.if_icmp .le 6, 3) := by decide +kernel
theorem dX12_sail_40 : decode cX12_sail 40 = .ok (.aload_n 0, 1) := by decide +kernel
theorem dX12_sail_41 : decode cX12_sail 41 = .ok (.iconst 1, 1) := by decide +kernel
theorem dX12_sail_42 : decode cX12_sail 42 = .ok (.aload_n 0, 1) := by decide +kernel
theorem dX12_sail_43 : decode cX12_sail 43 = .ok (.getfield 161, 3) := by decide +kernel
theorem dX12_sail_46 : decode cX12_sail 46 = .ok (.isub, 1) := by decide +kernel
theorem dX12_sail_47 : decode cX12_sail 47 = .ok (.putfield 190, 3) := by decide +kernel
theorem dX12_sail_50 : decode cX12_sail 50 = .ok (.aload_n 0, 1) := by decide +kernel
theorem dX12_sail_51 : decode cX12_sail 51 = .ok (.iconst 2, 1) := by decide +kernel
theorem dX12_sail_52 : decode cX12_sail 52 = .ok (.putfield 161, 3) := by decide +kernel
theorem dX12_sail_55 : decode cX12_sail 55 = .ok (.aload_n 0, 1) := by decide +kernel
theorem dX12_sail_56 : decode cX12_sail 56 = .ok (.aload_n 0, 1) := by decide +kernel
theorem dX12_sail_57 : decode cX12_sail 57 = .ok (.getfield 152, 3) := by decide +kernel
theorem dX12_sail_60 : decode cX12_sail 60 = .ok (.bipush 10, 2) := by decide +kernel
theorem dX12_sail_62 : decode cX12_sail 62 = .ok (.iadd, 1) := by decide +kernel
theorem dX12_sail_63 : decode cX12_sail 63 = .ok (.iconst 3, 1) := by decide +kernel
theorem dX12_sail_64 : decode cX12_sail 64 = .ok (.aload_n 0, 1) := by decide +kernel
theorem dX12_sail_65 : decode cX12_sail 65 = .ok (.getfield 158, 3) := by decide +kernel
theorem dX12_sail_68 : decode cX12_sail 68 = .ok (.imul, 1) := by decide +kernel
theorem dX12_sail_69 : decode cX12_sail 69 = .ok (.iadd, 1) := by decide +kernel
theorem dX12_sail_70 : decode cX12_sail 70 = .ok (.putfield 187, 3) := by decide +kernel
theorem dX12_sail_73 : decode cX12_sail 73 = .ok (.aload_n 0, 1) := by decide +kernel
theorem dX12_sail_74 : decode cX12_sail 74 = .ok (.dup, 1) := by decide +kernel
theorem dX12_sail_75 : decode cX12_sail 75 = .ok (.getfield 297, 3) := by decide +kernel
theorem dX12_sail_78 : decode cX12_sail 78 = .ok (.iconst 1, 1) := by decide +kernel
theorem dX12_sail_79 : decode cX12_sail 79 = .ok (.iadd, 1) := by decide +kernel
theorem dX12_sail_80 : decode cX12_sail 80 = .ok (.putfield 297, 3) := by decide +kernel
theorem dX12_sail_83 : decode cX12_sail 83 = .ok (.aload_n 0, 1) := by decide +kernel
theorem dX12_sail_84 : decode cX12_sail 84 = .ok (.getfield 187, 3) := by decide +kernel
theorem dX12_sail_87 : decode cX12_sail 87 = .ok (.ireturn, 1) := by decide +kernel
theorem dX12_tries_0 : decode cX12_tries 0 = .ok (.iload_n 1, 1) := by decide +kernel
theorem dX12_tries_1 : decode cX12_tries 1 = .ok (.iload_n 2, 1) := by decide +kernel
theorem dX12_tries_2 : decode cX12_tries 2 = .ok (.if_icmp .ne 58, 3) := by decide +kernel
theorem dX12_tries_5 : decode cX12_tries 5 = .ok (.aload_n 0, 1) := by decide +kernel
theorem dX12_tries_6 : decode cX12_tries 6 = .ok (.iload 4, 2) := by decide +kernel
theorem dX12_tries_8 : decode cX12_tries 8 = .ok (.putfield 300, 3) := by decide +kernel
theorem dX12_tries_11 : decode cX12_tries 11 = .ok (.aload_n 0, 1) := by decide +kernel
theorem dX12_tries_12 : decode cX12_tries 12 = .ok (.iload_n 2, 1) := by decide +kernel
theorem dX12_tries_13 : decode cX12_tries 13 = .ok (.putfield 303, 3) := by decide +kernel
theorem dX12_tries_16 : decode cX12_tries 16 = .ok (.iconst 0, 1) := by decide +kernel
theorem dX12_tries_17 : decode cX12_tries 17 = .ok (.istore 5, 2) := by decide +kernel
theorem dX12_tries_19 : decode cX12_tries 19 = .ok (.iload 5, 2) := by decide +kernel
theorem dX12_tries_21 : decode cX12_tries 21 = .ok (.iload_n 2, 1) := by decide +kernel
theorem dX12_tries_22 : decode cX12_tries 22 = .ok (.if_icmp .ge 37, 3) := by decide +kernel
theorem dX12_tries_59 : decode cX12_tries 59 = .ok (.return_, 1) := by decide +kernel
set_option maxRecDepth 20000 in
theorem ggX12_loading_X12_within : GoodIn wsX12_loading wsX12_within := goodIn_r _ [16] (by decide +kernel) (by decide +kernel)
set_option maxRecDepth 20000 in
theorem gX12_loading_X12_within : GoodIn wsX12_loading (va_wsS RX12 126 yX12_within wsX12_within) := goodIn_app (goodIn_of _ (by decide +kernel)) ggX12_loading_X12_within
set_option maxRecDepth 20000 in
theorem ggX12_loading_X12_yardRow : GoodIn wsX12_loading wsX12_yardRow := goodIn_r _ [19] (by decide +kernel) (by decide +kernel)
set_option maxRecDepth 20000 in
theorem gX12_loading_X12_yardRow : GoodIn wsX12_loading (va_wsS RX12 141 yX12_yardRow wsX12_yardRow) := goodIn_app (goodIn_of _ (by decide +kernel)) ggX12_loading_X12_yardRow
set_option maxRecDepth 20000 in
theorem ggX12_loading_X12_list : GoodIn wsX12_loading wsX12_list := goodIn_r _ [23, 3, 24, 25, 26, 27, 15, 28, 66, 67, 68, 69, 70, 71, 72, 73, 74, 75, 76, 77, 78, 79, 80, 81, 82, 83, 84, 85, 86, 87, 88, 89, 90, 91, 92, 93, 94, 95, 96, 97, 98, 99, 100, 101, 102, 103, 104, 105, 106, 107, 108, 109, 110, 111, 112, 113, 114, 115, 116, 117, 118, 119, 120] (by decide +kernel) (by decide +kernel)
set_option maxRecDepth 20000 in
theorem gX12_loading_X12_list : GoodIn wsX12_loading (wsV RX12 288 RX12 yX12_list wsX12_list) := goodIn_app (goodIn_of _ (by decide +kernel)) ggX12_loading_X12_list
set_option maxRecDepth 20000 in
theorem ggX12_loading_X12_tries : GoodIn wsX12_loading wsX12_tries := goodIn_r _ [32, 12, 6, 9, 33, 11, 34, 5, 4, 25, 2, 24, 35, 36, 37, 38, 39, 3, 17, 18, 15, 19, 26, 27, 28, 40, 41, 42, 43, 44, 45, 46, 47, 48, 49, 50, 51, 52, 53, 54, 55, 56, 57, 58, 59, 60, 61, 13, 14, 16, 62, 63, 64, 65, 29, 30, 31, 66, 67, 68, 69, 70, 71, 72, 73, 74, 75, 76, 77, 78, 79, 80, 81, 82, 83, 84, 85, 86, 87, 88, 89, 90, 91, 92, 93, 94, 95, 96, 97, 98, 99, 100, 101, 102, 103, 104, 105, 106, 107, 108, 109, 110, 111, 112, 113, 114, 115, 116, 117, 118, 119, 120] (by decide +kernel) (by decide +kernel)
set_option maxRecDepth 20000 in
theorem gX12_loading_X12_tries : GoodIn wsX12_loading (wsV RX12 311 RX12 yX12_tries wsX12_tries) := goodIn_app (goodIn_of _ (by decide +kernel)) ggX12_loading_X12_tries
theorem dX12_loading_0 : decode cX12_loading 0 = .ok (.aload_n 0, 1) := by decide +kernel
theorem dX12_loading_1 : decode cX12_loading 1 = .ok (.iconst 0, 1) := by decide +kernel
theorem dX12_loading_2 : decode cX12_loading 2 = .ok (.putfield 1, 3) := by decide +kernel
theorem dX12_loading_5 : decode cX12_loading 5 = .ok (.iload_n 1, 1) := by decide +kernel
theorem dX12_loading_6 : decode cX12_loading 6 = .ok (.iconst 0, 1) := by decide +kernel
theorem dX12_loading_7 : decode cX12_loading 7 = .ok (.bipush 6, 2) := by decide +kernel
theorem dX12_loading_9 : decode cX12_loading 9 = .ok (.invokestatic 126, 3) := by decide +kernel
theorem dX12_loading_12 : decode cX12_loading 12 = .ok (.ifCond .eq 41, 3) := by decide +kernel
theorem dX12_loading_15 : decode cX12_loading 15 = .ok (.iload_n 2, 1) := by decide +kernel
theorem dX12_loading_16 : decode cX12_loading 16 = .ok (.iconst 0, 1) := by decide +kernel
theorem dX12_loading_17 : decode cX12_loading 17 = .ok (.bipush 6, 2) := by decide +kernel
theorem dX12_loading_19 : decode cX12_loading 19 = .ok (.invokestatic 126, 3) := by decide +kernel
theorem dX12_loading_22 : decode cX12_loading 22 = .ok (.ifCond .eq 31, 3) := by decide +kernel
theorem dX12_loading_25 : decode cX12_loading 25 = .ok (.iload_n 3, 1) := by decide +kernel
theorem dX12_loading_26 : decode cX12_loading 26 = .ok (.iconst 0, 1) := by decide +kernel
theorem dX12_loading_27 : decode cX12_loading 27 = .ok (.bipush 6, 2) := by decide +kernel
theorem dX12_loading_29 : decode cX12_loading 29 = .ok (.invokestatic 126, 3) := by decide +kernel
theorem dX12_loading_32 : decode cX12_loading 32 = .ok (.ifCond .eq 21, 3) := by decide +kernel
theorem dX12_loading_35 : decode cX12_loading 35 = .ok (.iload_n 1, 1) := by decide +kernel
theorem dX12_loading_36 : decode cX12_loading 36 = .ok (.iload_n 2, 1) := by decide +kernel
theorem dX12_loading_37 : decode cX12_loading 37 = .ok (.iadd, 1) := by decide +kernel
theorem dX12_loading_38 : decode cX12_loading 38 = .ok (.iload_n 3, 1) := by decide +kernel
theorem dX12_loading_39 : decode cX12_loading 39 = .ok (.iadd, 1) := by decide +kernel
theorem dX12_loading_40 : decode cX12_loading 40 = .ok (.bipush 6, 2) := by decide +kernel
theorem dX12_loading_42 : decode cX12_loading 42 = .ok (.if_icmp .gt 11, 3) := by decide +kernel
theorem dX12_loading_45 : decode cX12_loading 45 = .ok (.aload_n 0, 1) := by decide +kernel
theorem dX12_loading_46 : decode cX12_loading 46 = .ok (.getfield 161, 3) := by decide +kernel
theorem dX12_loading_49 : decode cX12_loading 49 = .ok (.iconst 2, 1) := by decide +kernel
theorem dX12_loading_50 : decode cX12_loading 50 = .ok (.if_icmp .ne 5, 3) := by decide +kernel
theorem dX12_loading_53 : decode cX12_loading 53 = .ok (.iconst (-1), 1) := by decide +kernel
theorem dX12_loading_54 : decode cX12_loading 54 = .ok (.ireturn, 1) := by decide +kernel
theorem dX12_loading_55 : decode cX12_loading 55 = .ok (.iload_n 1, 1) := by decide +kernel
theorem dX12_loading_56 : decode cX12_loading 56 = .ok (.aload_n 0, 1) := by decide +kernel
theorem dX12_loading_57 : decode cX12_loading 57 = .ok (.getfield 58, 3) := by decide +kernel
theorem dX12_loading_60 : decode cX12_loading 60 = .ok (.aload_n 0, 1) := by decide +kernel
theorem dX12_loading_61 : decode cX12_loading 61 = .ok (.getfield 161, 3) := by decide +kernel
theorem dX12_loading_64 : decode cX12_loading 64 = .ok (.iconst 0, 1) := by decide +kernel
theorem dX12_loading_65 : decode cX12_loading 65 = .ok (.invokestatic 141, 3) := by decide +kernel
theorem dX12_loading_68 : decode cX12_loading 68 = .ok (.iaload, 1) := by decide +kernel
theorem dX12_loading_69 : decode cX12_loading 69 = .ok (.if_icmp .gt 37, 3) := by decide +kernel
theorem dX12_loading_72 : decode cX12_loading 72 = .ok (.iload_n 2, 1) := by decide +kernel
theorem dX12_loading_73 : decode cX12_loading 73 = .ok (.aload_n 0, 1) := by decide +kernel
theorem dX12_loading_74 : decode cX12_loading 74 = .ok (.getfield 58, 3) := by decide +kernel
theorem dX12_loading_77 : decode cX12_loading 77 = .ok (.aload_n 0, 1) := by decide +kernel
theorem dX12_loading_78 : decode cX12_loading 78 = .ok (.getfield 161, 3) := by decide +kernel
theorem dX12_loading_81 : decode cX12_loading 81 = .ok (.iconst 1, 1) := by decide +kernel
theorem dX12_loading_82 : decode cX12_loading 82 = .ok (.invokestatic 141, 3) := by decide +kernel
theorem dX12_loading_85 : decode cX12_loading 85 = .ok (.iaload, 1) := by decide +kernel
theorem dX12_loading_86 : decode cX12_loading 86 = .ok (.if_icmp .gt 20, 3) := by decide +kernel
theorem dX12_loading_89 : decode cX12_loading 89 = .ok (.iload_n 3, 1) := by decide +kernel
theorem dX12_loading_90 : decode cX12_loading 90 = .ok (.aload_n 0, 1) := by decide +kernel
theorem dX12_loading_91 : decode cX12_loading 91 = .ok (.getfield 58, 3) := by decide +kernel
theorem dX12_loading_94 : decode cX12_loading 94 = .ok (.aload_n 0, 1) := by decide +kernel
theorem dX12_loading_95 : decode cX12_loading 95 = .ok (.getfield 161, 3) := by decide +kernel
theorem dX12_loading_98 : decode cX12_loading 98 = .ok (.iconst 2, 1) := by decide +kernel
theorem dX12_loading_99 : decode cX12_loading 99 = .ok (.invokestatic 141, 3) := by decide +kernel
theorem dX12_loading_102 : decode cX12_loading 102 = .ok (.iaload, 1) := by decide +kernel
theorem dX12_loading_103 : decode cX12_loading 103 = .ok (.if_icmp .le 5, 3) := by decide +kernel
theorem dX12_loading_106 : decode cX12_loading 106 = .ok (.iconst (-1), 1) := by decide +kernel
theorem dX12_loading_107 : decode cX12_loading 107 = .ok (.ireturn, 1) := by decide +kernel
theorem dX12_loading_108 : decode cX12_loading 108 = .ok (.aload_n 0, 1) := by decide +kernel
theorem dX12_loading_109 : decode cX12_loading 109 = .ok (.getfield 89, 3) := by decide +kernel
theorem dX12_loading_112 : decode cX12_loading 112 = .ok (.iconst 0, 1) := by decide +kernel
theorem dX12_loading_113 : decode cX12_loading 113 = .ok (.iload_n 1, 1) := by decide +kernel
theorem dX12_loading_114 : decode cX12_loading 114 = .ok (.iastore, 1) := by decide +kernel
theorem dX12_loading_115 : decode cX12_loading 115 = .ok (.aload_n 0, 1) := by decide +kernel
theorem dX12_loading_116 : decode cX12_loading 116 = .ok (.getfield 89, 3) := by decide +kernel
theorem dX12_loading_119 : decode cX12_loading 119 = .ok (.iconst 1, 1) := by decide +kernel
theorem dX12_loading_120 : decode cX12_loading 120 = .ok (.iload_n 2, 1) := by decide +kernel
theorem dX12_loading_121 : decode cX12_loading 121 = .ok (.iastore, 1) := by decide +kernel
theorem dX12_loading_122 : decode cX12_loading 122 = .ok (.aload_n 0, 1) := by decide +kernel
theorem dX12_loading_123 : decode cX12_loading 123 = .ok (.getfield 89, 3) := by decide +kernel
theorem dX12_loading_126 : decode cX12_loading 126 = .ok (.iconst 2, 1) := by decide +kernel
theorem dX12_loading_127 : decode cX12_loading 127 = .ok (.iload_n 3, 1) := by decide +kernel
theorem dX12_loading_128 : decode cX12_loading 128 = .ok (.iastore, 1) := by decide +kernel
theorem dX12_loading_129 : decode cX12_loading 129 = .ok (.iconst 0, 1) := by decide +kernel
theorem dX12_loading_130 : decode cX12_loading 130 = .ok (.istore 4, 2) := by decide +kernel
theorem dX12_loading_132 : decode cX12_loading 132 = .ok (.iload 4, 2) := by decide +kernel
theorem dX12_loading_134 : decode cX12_loading 134 = .ok (.iconst 3, 1) := by decide +kernel
theorem dX12_loading_135 : decode cX12_loading 135 = .ok (.if_icmp .ge 17, 3) := by decide +kernel
theorem dX12_loading_138 : decode cX12_loading 138 = .ok (.aload_n 0, 1) := by decide +kernel
theorem dX12_loading_139 : decode cX12_loading 139 = .ok (.getfield 92, 3) := by decide +kernel
theorem dX12_loading_142 : decode cX12_loading 142 = .ok (.iload 4, 2) := by decide +kernel
theorem dX12_loading_144 : decode cX12_loading 144 = .ok (.iconst 0, 1) := by decide +kernel
theorem dX12_loading_145 : decode cX12_loading 145 = .ok (.iastore, 1) := by decide +kernel
theorem dX12_loading_146 : decode cX12_loading 146 = .ok (.iinc 4 1, 3) := by decide +kernel
theorem dX12_loading_149 : decode cX12_loading 149 = .ok (.goto (-17), 3) := by decide +kernel
theorem dX12_loading_152 : decode cX12_loading 152 = .ok (.aload_n 0, 1) := by decide +kernel
theorem dX12_loading_153 : decode cX12_loading 153 = .ok (.iconst (-1), 1) := by decide +kernel
theorem dX12_loading_154 : decode cX12_loading 154 = .ok (.putfield 303, 3) := by decide +kernel
theorem dX12_loading_157 : decode cX12_loading 157 = .ok (.aload_n 0, 1) := by decide +kernel
theorem dX12_loading_158 : decode cX12_loading 158 = .ok (.iconst 0, 1) := by decide +kernel
theorem dX12_loading_159 : decode cX12_loading 159 = .ok (.iload_n 1, 1) := by decide +kernel
theorem dX12_loading_160 : decode cX12_loading 160 = .ok (.iload_n 2, 1) := by decide +kernel
theorem dX12_loading_161 : decode cX12_loading 161 = .ok (.iadd, 1) := by decide +kernel
theorem dX12_loading_162 : decode cX12_loading 162 = .ok (.iload_n 3, 1) := by decide +kernel
theorem dX12_loading_163 : decode cX12_loading 163 = .ok (.iadd, 1) := by decide +kernel
theorem dX12_loading_164 : decode cX12_loading 164 = .ok (.aload_n 0, 1) := by decide +kernel
theorem dX12_loading_165 : decode cX12_loading 165 = .ok (.invokevirtual 288, 3) := by decide +kernel
theorem dX12_loading_168 : decode cX12_loading 168 = .ok (.iconst 0, 1) := by decide +kernel
theorem dX12_loading_169 : decode cX12_loading 169 = .ok (.invokevirtual 311, 3) := by decide +kernel
theorem dX12_loading_172 : decode cX12_loading 172 = .ok (.aload_n 0, 1) := by decide +kernel
theorem dX12_loading_173 : decode cX12_loading 173 = .ok (.getfield 303, 3) := by decide +kernel
theorem dX12_loading_176 : decode cX12_loading 176 = .ok (.iconst (-1), 1) := by decide +kernel
theorem dX12_loading_177 : decode cX12_loading 177 = .ok (.if_icmp .ne 5, 3) := by decide +kernel
theorem dX12_loading_182 : decode cX12_loading 182 = .ok (.aload_n 0, 1) := by decide +kernel
theorem dX12_loading_183 : decode cX12_loading 183 = .ok (.aload_n 0, 1) := by decide +kernel
theorem dX12_loading_184 : decode cX12_loading 184 = .ok (.getfield 303, 3) := by decide +kernel
theorem dX12_loading_187 : decode cX12_loading 187 = .ok (.putfield 315, 3) := by decide +kernel
theorem dX12_loading_190 : decode cX12_loading 190 = .ok (.iconst 0, 1) := by decide +kernel
theorem dX12_loading_191 : decode cX12_loading 191 = .ok (.istore 4, 2) := by decide +kernel
theorem dX12_loading_193 : decode cX12_loading 193 = .ok (.iload 4, 2) := by decide +kernel
theorem dX12_loading_195 : decode cX12_loading 195 = .ok (.aload_n 0, 1) := by decide +kernel
theorem dX12_loading_196 : decode cX12_loading 196 = .ok (.getfield 315, 3) := by decide +kernel
theorem dX12_loading_199 : decode cX12_loading 199 = .ok (.if_icmp .ge 37, 3) := by decide +kernel
theorem dX12_loading_236 : decode cX12_loading 236 = .ok (.aload_n 0, 1) := by decide +kernel
theorem dX12_loading_237 : decode cX12_loading 237 = .ok (.getfield 300, 3) := by decide +kernel
theorem dX12_loading_240 : decode cX12_loading 240 = .ok (.ireturn, 1) := by decide +kernel
theorem dX12_step_0 : decode cX12_step 0 = .ok (.aload_n 0, 1) := by decide +kernel
theorem dX12_step_1 : decode cX12_step 1 = .ok (.iconst 0, 1) := by decide +kernel
theorem dX12_step_2 : decode cX12_step 2 = .ok (.putfield 1, 3) := by decide +kernel
theorem dX12_step_5 : decode cX12_step 5 = .ok (.iload_n 1, 1) := by decide +kernel
theorem dX12_step_6 : decode cX12_step 6 = .ok (.ifCond .lt 11, 3) := by decide +kernel
theorem dX12_step_9 : decode cX12_step 9 = .ok (.iload_n 1, 1) := by decide +kernel
theorem dX12_step_10 : decode cX12_step 10 = .ok (.aload_n 0, 1) := by decide +kernel
theorem dX12_step_11 : decode cX12_step 11 = .ok (.getfield 315, 3) := by decide +kernel
theorem dX12_step_14 : decode cX12_step 14 = .ok (.if_icmp .lt 5, 3) := by decide +kernel
theorem dX12_step_17 : decode cX12_step 17 = .ok (.iconst (-1), 1) := by decide +kernel
theorem dX12_step_18 : decode cX12_step 18 = .ok (.ireturn, 1) := by decide +kernel
theorem dX12_placeOf_0 : decode cX12_placeOf 0 = .ok (.iload_n 0, 1) := by decide +kernel
theorem dX12_placeOf_1 : decode cX12_placeOf 1 = .ok (.bipush 11, 2) := by decide +kernel
theorem dX12_placeOf_3 : decode cX12_placeOf 3 = .ok (.iload_n 1, 1) := by decide +kernel
theorem dX12_placeOf_4 : decode cX12_placeOf 4 = .ok (.bipush 11, 2) := by decide +kernel
theorem dX12_placeOf_6 : decode cX12_placeOf 6 = .ok (.iload_n 2, 1) := by decide +kernel
theorem dX12_placeOf_7 : decode cX12_placeOf 7 = .ok (.bipush 11, 2) := by decide +kernel
theorem dX12_placeOf_9 : decode cX12_placeOf 9 = .ok (.iload_n 3, 1) := by decide +kernel
theorem dX12_placeOf_10 : decode cX12_placeOf 10 = .ok (.imul, 1) := by decide +kernel
theorem dX12_placeOf_11 : decode cX12_placeOf 11 = .ok (.iadd, 1) := by decide +kernel
theorem dX12_placeOf_12 : decode cX12_placeOf 12 = .ok (.imul, 1) := by decide +kernel
theorem dX12_placeOf_13 : decode cX12_placeOf 13 = .ok (.iadd, 1) := by decide +kernel
theorem dX12_placeOf_14 : decode cX12_placeOf 14 = .ok (.imul, 1) := by decide +kernel
theorem dX12_placeOf_15 : decode cX12_placeOf 15 = .ok (.iadd, 1) := by decide +kernel
theorem dX12_placeOf_16 : decode cX12_placeOf 16 = .ok (.ireturn, 1) := by decide +kernel
theorem dX12_part_0 : decode cX12_part 0 = .ok (.iconst 0, 1) := by decide +kernel
theorem dX12_part_1 : decode cX12_part 1 = .ok (.istore_n 3, 1) := by decide +kernel
theorem dX12_part_2 : decode cX12_part 2 = .ok (.iconst 0, 1) := by decide +kernel
theorem dX12_part_3 : decode cX12_part 3 = .ok (.istore 4, 2) := by decide +kernel
theorem dX12_part_5 : decode cX12_part 5 = .ok (.iload 4, 2) := by decide +kernel
theorem dX12_part_7 : decode cX12_part 7 = .ok (.iload_n 2, 1) := by decide +kernel
theorem dX12_part_8 : decode cX12_part 8 = .ok (.if_icmp .ge 34, 3) := by decide +kernel
theorem dX12_part_42 : decode cX12_part 42 = .ok (.iload_n 3, 1) := by decide +kernel
theorem dX12_part_43 : decode cX12_part 43 = .ok (.ireturn, 1) := by decide +kernel
set_option maxRecDepth 20000 in
theorem ggX12_findLists_X12_placeOf : GoodIn wsX12_findLists wsX12_placeOf := goodIn_r _ [6] (by decide +kernel) (by decide +kernel)
set_option maxRecDepth 20000 in
theorem gX12_findLists_X12_placeOf : GoodIn wsX12_findLists (va_wsS RX12 318 yX12_placeOf wsX12_placeOf) := goodIn_app (goodIn_of _ (by decide +kernel)) ggX12_findLists_X12_placeOf
set_option maxRecDepth 20000 in
theorem ggX12_findLists_X12_part : GoodIn wsX12_findLists wsX12_part := goodIn_r _ [10, 11, 12, 13, 14, 5, 15, 16, 17, 18, 19, 20, 21, 22, 23, 24, 25, 26, 27, 28, 29, 30, 31, 32, 33, 34, 35, 36, 37, 38, 39, 40, 41, 42, 43, 44, 45, 46, 47, 48, 49, 50, 51, 52, 53, 54, 55, 56, 57, 58, 59, 60, 61, 62, 63, 64, 65, 66, 67, 68, 69, 70] (by decide +kernel) (by decide +kernel)
set_option maxRecDepth 20000 in
theorem gX12_findLists_X12_part : GoodIn wsX12_findLists (wsV RX12 322 RX12 yX12_part wsX12_part) := goodIn_app (goodIn_of _ (by decide +kernel)) ggX12_findLists_X12_part
theorem dX12_findLists_0 : decode cX12_findLists 0 = .ok (.iconst 0, 1) := by decide +kernel
theorem dX12_findLists_1 : decode cX12_findLists 1 = .ok (.istore_n 1, 1) := by decide +kernel
theorem dX12_findLists_2 : decode cX12_findLists 2 = .ok (.iload_n 1, 1) := by decide +kernel
theorem dX12_findLists_3 : decode cX12_findLists 3 = .ok (.aload_n 0, 1) := by decide +kernel
theorem dX12_findLists_4 : decode cX12_findLists 4 = .ok (.getfield 58, 3) := by decide +kernel
theorem dX12_findLists_7 : decode cX12_findLists 7 = .ok (.iconst 3, 1) := by decide +kernel
theorem dX12_findLists_8 : decode cX12_findLists 8 = .ok (.iaload, 1) := by decide +kernel
theorem dX12_findLists_9 : decode cX12_findLists 9 = .ok (.if_icmp .gt 106, 3) := by decide +kernel
theorem dX12_findLists_12 : decode cX12_findLists 12 = .ok (.iconst 0, 1) := by decide +kernel
theorem dX12_findLists_13 : decode cX12_findLists 13 = .ok (.istore_n 2, 1) := by decide +kernel
theorem dX12_findLists_14 : decode cX12_findLists 14 = .ok (.iload_n 2, 1) := by decide +kernel
theorem dX12_findLists_15 : decode cX12_findLists 15 = .ok (.aload_n 0, 1) := by decide +kernel
theorem dX12_findLists_16 : decode cX12_findLists 16 = .ok (.getfield 58, 3) := by decide +kernel
theorem dX12_findLists_19 : decode cX12_findLists 19 = .ok (.iconst 2, 1) := by decide +kernel
theorem dX12_findLists_20 : decode cX12_findLists 20 = .ok (.iaload, 1) := by decide +kernel
theorem dX12_findLists_21 : decode cX12_findLists 21 = .ok (.if_icmp .gt 88, 3) := by decide +kernel
theorem dX12_findLists_24 : decode cX12_findLists 24 = .ok (.iconst 0, 1) := by decide +kernel
theorem dX12_findLists_25 : decode cX12_findLists 25 = .ok (.istore_n 3, 1) := by decide +kernel
theorem dX12_findLists_26 : decode cX12_findLists 26 = .ok (.iload_n 3, 1) := by decide +kernel
theorem dX12_findLists_27 : decode cX12_findLists 27 = .ok (.aload_n 0, 1) := by decide +kernel
theorem dX12_findLists_28 : decode cX12_findLists 28 = .ok (.getfield 58, 3) := by decide +kernel
theorem dX12_findLists_31 : decode cX12_findLists 31 = .ok (.iconst 1, 1) := by decide +kernel
theorem dX12_findLists_32 : decode cX12_findLists 32 = .ok (.iaload, 1) := by decide +kernel
theorem dX12_findLists_33 : decode cX12_findLists 33 = .ok (.if_icmp .gt 70, 3) := by decide +kernel
theorem dX12_findLists_36 : decode cX12_findLists 36 = .ok (.iconst 0, 1) := by decide +kernel
theorem dX12_findLists_37 : decode cX12_findLists 37 = .ok (.istore 4, 2) := by decide +kernel
theorem dX12_findLists_39 : decode cX12_findLists 39 = .ok (.iload 4, 2) := by decide +kernel
theorem dX12_findLists_41 : decode cX12_findLists 41 = .ok (.aload_n 0, 1) := by decide +kernel
theorem dX12_findLists_42 : decode cX12_findLists 42 = .ok (.getfield 58, 3) := by decide +kernel
theorem dX12_findLists_45 : decode cX12_findLists 45 = .ok (.iconst 0, 1) := by decide +kernel
theorem dX12_findLists_46 : decode cX12_findLists 46 = .ok (.iaload, 1) := by decide +kernel
theorem dX12_findLists_47 : decode cX12_findLists 47 = .ok (.if_icmp .gt 50, 3) := by decide +kernel
theorem dX12_findLists_50 : decode cX12_findLists 50 = .ok (.aload_n 0, 1) := by decide +kernel
theorem dX12_findLists_51 : decode cX12_findLists 51 = .ok (.getfield 116, 3) := by decide +kernel
theorem dX12_findLists_54 : decode cX12_findLists 54 = .ok (.iload 4, 2) := by decide +kernel
theorem dX12_findLists_56 : decode cX12_findLists 56 = .ok (.iload_n 3, 1) := by decide +kernel
theorem dX12_findLists_57 : decode cX12_findLists 57 = .ok (.iload_n 2, 1) := by decide +kernel
theorem dX12_findLists_58 : decode cX12_findLists 58 = .ok (.iload_n 1, 1) := by decide +kernel
theorem dX12_findLists_59 : decode cX12_findLists 59 = .ok (.invokestatic 318, 3) := by decide +kernel
theorem dX12_findLists_62 : decode cX12_findLists 62 = .ok (.aload_n 0, 1) := by decide +kernel
theorem dX12_findLists_63 : decode cX12_findLists 63 = .ok (.iconst 0, 1) := by decide +kernel
theorem dX12_findLists_64 : decode cX12_findLists 64 = .ok (.iload 4, 2) := by decide +kernel
theorem dX12_findLists_66 : decode cX12_findLists 66 = .ok (.invokevirtual 322, 3) := by decide +kernel
theorem dX12_findLists_69 : decode cX12_findLists 69 = .ok (.aload_n 0, 1) := by decide +kernel
theorem dX12_findLists_70 : decode cX12_findLists 70 = .ok (.iconst 1, 1) := by decide +kernel
theorem dX12_findLists_71 : decode cX12_findLists 71 = .ok (.iload_n 3, 1) := by decide +kernel
theorem dX12_findLists_72 : decode cX12_findLists 72 = .ok (.invokevirtual 322, 3) := by decide +kernel
theorem dX12_findLists_75 : decode cX12_findLists 75 = .ok (.iadd, 1) := by decide +kernel
theorem dX12_findLists_76 : decode cX12_findLists 76 = .ok (.aload_n 0, 1) := by decide +kernel
theorem dX12_findLists_77 : decode cX12_findLists 77 = .ok (.iconst 2, 1) := by decide +kernel
theorem dX12_findLists_78 : decode cX12_findLists 78 = .ok (.iload_n 2, 1) := by decide +kernel
theorem dX12_findLists_79 : decode cX12_findLists 79 = .ok (.invokevirtual 322, 3) := by decide +kernel
theorem dX12_findLists_82 : decode cX12_findLists 82 = .ok (.iadd, 1) := by decide +kernel
theorem dX12_findLists_83 : decode cX12_findLists 83 = .ok (.aload_n 0, 1) := by decide +kernel
theorem dX12_findLists_84 : decode cX12_findLists 84 = .ok (.iconst 3, 1) := by decide +kernel
theorem dX12_findLists_85 : decode cX12_findLists 85 = .ok (.iload_n 1, 1) := by decide +kernel
theorem dX12_findLists_86 : decode cX12_findLists 86 = .ok (.invokevirtual 322, 3) := by decide +kernel
theorem dX12_findLists_89 : decode cX12_findLists 89 = .ok (.iadd, 1) := by decide +kernel
theorem dX12_findLists_90 : decode cX12_findLists 90 = .ok (.iastore, 1) := by decide +kernel
theorem dX12_findLists_91 : decode cX12_findLists 91 = .ok (.iinc 4 1, 3) := by decide +kernel
theorem dX12_findLists_94 : decode cX12_findLists 94 = .ok (.goto (-55), 3) := by decide +kernel
theorem dX12_findLists_97 : decode cX12_findLists 97 = .ok (.iinc 3 1, 3) := by decide +kernel
theorem dX12_findLists_100 : decode cX12_findLists 100 = .ok (.goto (-74), 3) := by decide +kernel
theorem dX12_findLists_103 : decode cX12_findLists 103 = .ok (.iinc 2 1, 3) := by decide +kernel
theorem dX12_findLists_106 : decode cX12_findLists 106 = .ok (.goto (-92), 3) := by decide +kernel
theorem dX12_findLists_109 : decode cX12_findLists 109 = .ok (.iinc 1 1, 3) := by decide +kernel
theorem dX12_findLists_112 : decode cX12_findLists 112 = .ok (.goto (-110), 3) := by decide +kernel
theorem dX12_findLists_115 : decode cX12_findLists 115 = .ok (.return_, 1) := by decide +kernel
set_option maxRecDepth 20000 in
theorem ggX12_canAll_X12_placeOf : GoodIn wsX12_canAll wsX12_placeOf := goodIn_r _ [6] (by decide +kernel) (by decide +kernel)
set_option maxRecDepth 20000 in
theorem gX12_canAll_X12_placeOf : GoodIn wsX12_canAll (va_wsS RX12 318 yX12_placeOf wsX12_placeOf) := goodIn_app (goodIn_of _ (by decide +kernel)) ggX12_canAll_X12_placeOf
theorem dX12_canAll_0 : decode cX12_canAll 0 = .ok (.iconst 0, 1) := by decide +kernel
theorem dX12_canAll_1 : decode cX12_canAll 1 = .ok (.istore_n 2, 1) := by decide +kernel
theorem dX12_canAll_2 : decode cX12_canAll 2 = .ok (.iload_n 2, 1) := by decide +kernel
theorem dX12_canAll_3 : decode cX12_canAll 3 = .ok (.aload_n 0, 1) := by decide +kernel
theorem dX12_canAll_4 : decode cX12_canAll 4 = .ok (.getfield 58, 3) := by decide +kernel
theorem dX12_canAll_7 : decode cX12_canAll 7 = .ok (.iconst 3, 1) := by decide +kernel
theorem dX12_canAll_8 : decode cX12_canAll 8 = .ok (.iaload, 1) := by decide +kernel
theorem dX12_canAll_9 : decode cX12_canAll 9 = .ok (.if_icmp .gt 165, 3) := by decide +kernel
theorem dX12_canAll_12 : decode cX12_canAll 12 = .ok (.iconst 0, 1) := by decide +kernel
theorem dX12_canAll_13 : decode cX12_canAll 13 = .ok (.istore_n 3, 1) := by decide +kernel
theorem dX12_canAll_14 : decode cX12_canAll 14 = .ok (.iload_n 3, 1) := by decide +kernel
theorem dX12_canAll_15 : decode cX12_canAll 15 = .ok (.aload_n 0, 1) := by decide +kernel
theorem dX12_canAll_16 : decode cX12_canAll 16 = .ok (.getfield 58, 3) := by decide +kernel
theorem dX12_canAll_19 : decode cX12_canAll 19 = .ok (.iconst 2, 1) := by decide +kernel
theorem dX12_canAll_20 : decode cX12_canAll 20 = .ok (.iaload, 1) := by decide +kernel
theorem dX12_canAll_21 : decode cX12_canAll 21 = .ok (.if_icmp .gt 147, 3) := by decide +kernel
theorem dX12_canAll_24 : decode cX12_canAll 24 = .ok (.iconst 0, 1) := by decide +kernel
theorem dX12_canAll_25 : decode cX12_canAll 25 = .ok (.istore 4, 2) := by decide +kernel
theorem dX12_canAll_27 : decode cX12_canAll 27 = .ok (.iload 4, 2) := by decide +kernel
theorem dX12_canAll_29 : decode cX12_canAll 29 = .ok (.aload_n 0, 1) := by decide +kernel
theorem dX12_canAll_30 : decode cX12_canAll 30 = .ok (.getfield 58, 3) := by decide +kernel
theorem dX12_canAll_33 : decode cX12_canAll 33 = .ok (.iconst 1, 1) := by decide +kernel
theorem dX12_canAll_34 : decode cX12_canAll 34 = .ok (.iaload, 1) := by decide +kernel
theorem dX12_canAll_35 : decode cX12_canAll 35 = .ok (.if_icmp .gt 127, 3) := by decide +kernel
theorem dX12_canAll_38 : decode cX12_canAll 38 = .ok (.iconst 0, 1) := by decide +kernel
theorem dX12_canAll_39 : decode cX12_canAll 39 = .ok (.istore 5, 2) := by decide +kernel
theorem dX12_canAll_41 : decode cX12_canAll 41 = .ok (.iload 5, 2) := by decide +kernel
theorem dX12_canAll_43 : decode cX12_canAll 43 = .ok (.aload_n 0, 1) := by decide +kernel
theorem dX12_canAll_44 : decode cX12_canAll 44 = .ok (.getfield 58, 3) := by decide +kernel
theorem dX12_canAll_47 : decode cX12_canAll 47 = .ok (.iconst 0, 1) := by decide +kernel
theorem dX12_canAll_48 : decode cX12_canAll 48 = .ok (.iaload, 1) := by decide +kernel
theorem dX12_canAll_49 : decode cX12_canAll 49 = .ok (.if_icmp .gt 107, 3) := by decide +kernel
theorem dX12_canAll_52 : decode cX12_canAll 52 = .ok (.iload 5, 2) := by decide +kernel
theorem dX12_canAll_54 : decode cX12_canAll 54 = .ok (.iload 4, 2) := by decide +kernel
theorem dX12_canAll_56 : decode cX12_canAll 56 = .ok (.iload_n 3, 1) := by decide +kernel
theorem dX12_canAll_57 : decode cX12_canAll 57 = .ok (.iload_n 2, 1) := by decide +kernel
theorem dX12_canAll_58 : decode cX12_canAll 58 = .ok (.invokestatic 318, 3) := by decide +kernel
theorem dX12_canAll_61 : decode cX12_canAll 61 = .ok (.istore 6, 2) := by decide +kernel
theorem dX12_canAll_63 : decode cX12_canAll 63 = .ok (.aload_n 0, 1) := by decide +kernel
theorem dX12_canAll_64 : decode cX12_canAll 64 = .ok (.getfield 113, 3) := by decide +kernel
theorem dX12_canAll_67 : decode cX12_canAll 67 = .ok (.iload 6, 2) := by decide +kernel
theorem dX12_canAll_69 : decode cX12_canAll 69 = .ok (.iload 6, 2) := by decide +kernel
theorem dX12_canAll_71 : decode cX12_canAll 71 = .ok (.ifCond .eq 73, 3) := by decide +kernel
theorem dX12_canAll_144 : decode cX12_canAll 144 = .ok (.iconst 1, 1) := by decide +kernel
theorem dX12_canAll_145 : decode cX12_canAll 145 = .ok (.goto 4, 3) := by decide +kernel
theorem dX12_canAll_149 : decode cX12_canAll 149 = .ok (.bastore, 1) := by decide +kernel
theorem dX12_canAll_150 : decode cX12_canAll 150 = .ok (.iinc 5 1, 3) := by decide +kernel
theorem dX12_canAll_153 : decode cX12_canAll 153 = .ok (.goto (-112), 3) := by decide +kernel
theorem dX12_canAll_156 : decode cX12_canAll 156 = .ok (.iinc 4 1, 3) := by decide +kernel
theorem dX12_canAll_159 : decode cX12_canAll 159 = .ok (.goto (-132), 3) := by decide +kernel
theorem dX12_canAll_162 : decode cX12_canAll 162 = .ok (.iinc 3 1, 3) := by decide +kernel
theorem dX12_canAll_165 : decode cX12_canAll 165 = .ok (.goto (-151), 3) := by decide +kernel
theorem dX12_canAll_168 : decode cX12_canAll 168 = .ok (.iinc 2 1, 3) := by decide +kernel
theorem dX12_canAll_171 : decode cX12_canAll 171 = .ok (.goto (-169), 3) := by decide +kernel
theorem dX12_canAll_174 : decode cX12_canAll 174 = .ok (.aload_n 0, 1) := by decide +kernel
theorem dX12_canAll_175 : decode cX12_canAll 175 = .ok (.getfield 113, 3) := by decide +kernel
theorem dX12_canAll_178 : decode cX12_canAll 178 = .ok (.aload_n 0, 1) := by decide +kernel
theorem dX12_canAll_179 : decode cX12_canAll 179 = .ok (.getfield 58, 3) := by decide +kernel
theorem dX12_canAll_182 : decode cX12_canAll 182 = .ok (.iconst 0, 1) := by decide +kernel
theorem dX12_canAll_183 : decode cX12_canAll 183 = .ok (.iaload, 1) := by decide +kernel
theorem dX12_canAll_184 : decode cX12_canAll 184 = .ok (.aload_n 0, 1) := by decide +kernel
theorem dX12_canAll_185 : decode cX12_canAll 185 = .ok (.getfield 58, 3) := by decide +kernel
theorem dX12_canAll_188 : decode cX12_canAll 188 = .ok (.iconst 1, 1) := by decide +kernel
theorem dX12_canAll_189 : decode cX12_canAll 189 = .ok (.iaload, 1) := by decide +kernel
theorem dX12_canAll_190 : decode cX12_canAll 190 = .ok (.aload_n 0, 1) := by decide +kernel
theorem dX12_canAll_191 : decode cX12_canAll 191 = .ok (.getfield 58, 3) := by decide +kernel
theorem dX12_canAll_194 : decode cX12_canAll 194 = .ok (.iconst 2, 1) := by decide +kernel
theorem dX12_canAll_195 : decode cX12_canAll 195 = .ok (.iaload, 1) := by decide +kernel
theorem dX12_canAll_196 : decode cX12_canAll 196 = .ok (.aload_n 0, 1) := by decide +kernel
theorem dX12_canAll_197 : decode cX12_canAll 197 = .ok (.getfield 58, 3) := by decide +kernel
theorem dX12_canAll_200 : decode cX12_canAll 200 = .ok (.iconst 3, 1) := by decide +kernel
theorem dX12_canAll_201 : decode cX12_canAll 201 = .ok (.iaload, 1) := by decide +kernel
theorem dX12_canAll_202 : decode cX12_canAll 202 = .ok (.invokestatic 318, 3) := by decide +kernel
theorem dX12_canAll_205 : decode cX12_canAll 205 = .ok (.baload, 1) := by decide +kernel
theorem dX12_canAll_206 : decode cX12_canAll 206 = .ok (.ireturn, 1) := by decide +kernel
set_option maxRecDepth 20000 in
theorem ggX12_leastLimit_X12_findLists : GoodIn wsX12_leastLimit wsX12_findLists := goodIn_r _ [6, 7, 8, 9, 10, 5, 11, 12, 13, 14, 15, 16, 17, 18, 19, 20, 33, 34, 35, 36, 37, 38, 39, 40, 41, 42, 43, 44, 45, 46, 47, 48, 49, 50, 51, 52, 53, 54, 55, 56, 57, 58, 59, 60, 61, 62, 63, 64, 65, 66, 67, 68, 69, 70, 71, 72, 73, 74, 75, 76, 77, 78, 79, 80, 81, 82, 83, 84, 85, 86, 87] (by decide +kernel) (by decide +kernel)
set_option maxRecDepth 20000 in
theorem gX12_leastLimit_X12_findLists : GoodIn wsX12_leastLimit (wsV RX12 328 RX12 yX12_findLists wsX12_findLists) := goodIn_app (goodIn_of _ (by decide +kernel)) ggX12_leastLimit_X12_findLists
set_option maxRecDepth 20000 in
theorem ggX12_leastLimit_X12_canAll : GoodIn wsX12_leastLimit wsX12_canAll := goodIn_r _ [24, 7, 25, 9, 10, 5, 11, 26, 27, 28, 29, 8, 30, 31, 32, 33, 34, 35, 36, 37, 38, 39, 40, 41, 42, 43, 44, 45, 46, 47, 48, 49, 50, 51, 52, 53, 54, 55, 56, 57, 58, 59, 60, 61, 62, 63, 64, 65, 66, 67, 68, 69, 70, 71, 72, 73, 74, 75, 76, 77, 78, 79, 80, 81, 82, 83, 84, 85, 86, 87] (by decide +kernel) (by decide +kernel)
set_option maxRecDepth 20000 in
theorem gX12_leastLimit_X12_canAll : GoodIn wsX12_leastLimit (wsV RX12 331 RX12 yX12_canAll wsX12_canAll) := goodIn_app (goodIn_of _ (by decide +kernel)) ggX12_leastLimit_X12_canAll
theorem dX12_leastLimit_0 : decode cX12_leastLimit 0 = .ok (.aload_n 0, 1) := by decide +kernel
theorem dX12_leastLimit_1 : decode cX12_leastLimit 1 = .ok (.invokevirtual 328, 3) := by decide +kernel
theorem dX12_leastLimit_4 : decode cX12_leastLimit 4 = .ok (.aload_n 0, 1) := by decide +kernel
theorem dX12_leastLimit_5 : decode cX12_leastLimit 5 = .ok (.aload_n 0, 1) := by decide +kernel
theorem dX12_leastLimit_6 : decode cX12_leastLimit 6 = .ok (.getfield 16, 3) := by decide +kernel
theorem dX12_leastLimit_9 : decode cX12_leastLimit 9 = .ok (.invokevirtual 331, 3) := by decide +kernel
theorem dX12_leastLimit_12 : decode cX12_leastLimit 12 = .ok (.ifCond .ne 5, 3) := by decide +kernel
theorem dX12_leastLimit_17 : decode cX12_leastLimit 17 = .ok (.iconst 0, 1) := by decide +kernel
theorem dX12_leastLimit_18 : decode cX12_leastLimit 18 = .ok (.istore_n 1, 1) := by decide +kernel
theorem dX12_leastLimit_19 : decode cX12_leastLimit 19 = .ok (.aload_n 0, 1) := by decide +kernel
theorem dX12_leastLimit_20 : decode cX12_leastLimit 20 = .ok (.getfield 16, 3) := by decide +kernel
theorem dX12_leastLimit_23 : decode cX12_leastLimit 23 = .ok (.istore_n 2, 1) := by decide +kernel
theorem dX12_leastLimit_24 : decode cX12_leastLimit 24 = .ok (.iload_n 1, 1) := by decide +kernel
theorem dX12_leastLimit_25 : decode cX12_leastLimit 25 = .ok (.iload_n 2, 1) := by decide +kernel
theorem dX12_leastLimit_26 : decode cX12_leastLimit 26 = .ok (.if_icmp .ge 29, 3) := by decide +kernel
theorem dX12_leastLimit_29 : decode cX12_leastLimit 29 = .ok (.iload_n 1, 1) := by decide +kernel
theorem dX12_leastLimit_30 : decode cX12_leastLimit 30 = .ok (.iload_n 2, 1) := by decide +kernel
theorem dX12_leastLimit_31 : decode cX12_leastLimit 31 = .ok (.iadd, 1) := by decide +kernel
theorem dX12_leastLimit_32 : decode cX12_leastLimit 32 = .ok (.iconst 2, 1) := by decide +kernel
theorem dX12_leastLimit_33 : decode cX12_leastLimit 33 = .ok (.idiv, 1) := by decide +kernel
theorem dX12_leastLimit_34 : decode cX12_leastLimit 34 = .ok (.istore_n 3, 1) := by decide +kernel
theorem dX12_leastLimit_35 : decode cX12_leastLimit 35 = .ok (.aload_n 0, 1) := by decide +kernel
theorem dX12_leastLimit_36 : decode cX12_leastLimit 36 = .ok (.iload_n 3, 1) := by decide +kernel
theorem dX12_leastLimit_37 : decode cX12_leastLimit 37 = .ok (.invokevirtual 331, 3) := by decide +kernel
theorem dX12_leastLimit_40 : decode cX12_leastLimit 40 = .ok (.ifCond .eq 8, 3) := by decide +kernel
theorem dX12_leastLimit_43 : decode cX12_leastLimit 43 = .ok (.iload_n 3, 1) := by decide +kernel
theorem dX12_leastLimit_44 : decode cX12_leastLimit 44 = .ok (.istore_n 2, 1) := by decide +kernel
theorem dX12_leastLimit_45 : decode cX12_leastLimit 45 = .ok (.goto 7, 3) := by decide +kernel
theorem dX12_leastLimit_52 : decode cX12_leastLimit 52 = .ok (.goto (-28), 3) := by decide +kernel
theorem dX12_leastLimit_55 : decode cX12_leastLimit 55 = .ok (.aload_n 0, 1) := by decide +kernel
theorem dX12_leastLimit_56 : decode cX12_leastLimit 56 = .ok (.iload_n 1, 1) := by decide +kernel
theorem dX12_leastLimit_57 : decode cX12_leastLimit 57 = .ok (.invokevirtual 331, 3) := by decide +kernel
theorem dX12_leastLimit_60 : decode cX12_leastLimit 60 = .ok (.istore_n 3, 1) := by decide +kernel
theorem dX12_leastLimit_61 : decode cX12_leastLimit 61 = .ok (.iload_n 3, 1) := by decide +kernel
theorem dX12_leastLimit_62 : decode cX12_leastLimit 62 = .ok (.ifCond .eq 7, 3) := by decide +kernel
theorem dX12_leastLimit_65 : decode cX12_leastLimit 65 = .ok (.iload_n 1, 1) := by decide +kernel
theorem dX12_leastLimit_66 : decode cX12_leastLimit 66 = .ok (.goto 4, 3) := by decide +kernel
theorem dX12_leastLimit_70 : decode cX12_leastLimit 70 = .ok (.ireturn, 1) := by decide +kernel
set_option maxRecDepth 20000 in
theorem ggX12_emptying_X12_leastLimit : GoodIn wsX12_emptying wsX12_leastLimit := goodIn_r _ [6, 7, 8, 9, 10, 5, 11, 12, 13, 14, 15, 16, 17, 18, 19, 20, 21, 22, 23, 24, 25, 26, 27, 28, 29, 30, 31, 32, 33, 34, 35, 36, 37, 38, 39, 40, 41, 42, 43, 44, 45, 46, 47, 48, 49, 50, 51, 52, 53, 54, 55, 56, 57, 58, 59, 60, 61, 62, 63, 64, 65, 66, 67, 68, 69, 70, 71, 72, 73, 74, 75, 76, 77, 78, 79, 80, 81, 82, 83, 84, 85, 86, 87, 88, 89, 90, 91, 92] (by decide +kernel) (by decide +kernel)
set_option maxRecDepth 20000 in
theorem gX12_emptying_X12_leastLimit : GoodIn wsX12_emptying (wsV RX12 334 RX12 yX12_leastLimit wsX12_leastLimit) := goodIn_app (goodIn_of _ (by decide +kernel)) ggX12_emptying_X12_leastLimit
theorem dX12_emptying_0 : decode cX12_emptying 0 = .ok (.aload_n 0, 1) := by decide +kernel
theorem dX12_emptying_1 : decode cX12_emptying 1 = .ok (.iconst 0, 1) := by decide +kernel
theorem dX12_emptying_2 : decode cX12_emptying 2 = .ok (.putfield 1, 3) := by decide +kernel
theorem dX12_emptying_5 : decode cX12_emptying 5 = .ok (.aload_n 0, 1) := by decide +kernel
theorem dX12_emptying_6 : decode cX12_emptying 6 = .ok (.invokevirtual 334, 3) := by decide +kernel
theorem dX12_emptying_9 : decode cX12_emptying 9 = .ok (.ireturn, 1) := by decide +kernel
set_option maxRecDepth 20000 in
theorem ggX12_emptied_X12_onDeck : GoodIn wsX12_emptied wsX12_onDeck := goodIn_r _ [8, 3, 43, 44, 45, 46, 47, 48, 49, 50, 51, 52, 53, 54, 55, 56, 57, 58, 59, 60, 61, 62, 63, 64, 65, 66, 67, 68, 69, 70, 71, 72, 73, 74, 75, 76, 77, 78, 79, 80, 81, 82, 83, 84, 85, 86, 87, 88, 89, 90, 91, 92, 93, 94, 95, 96, 97] (by decide +kernel) (by decide +kernel)
set_option maxRecDepth 20000 in
theorem gX12_emptied_X12_onDeck : GoodIn wsX12_emptied (wsV RX12 130 RX12 yX12_onDeck wsX12_onDeck) := goodIn_app (goodIn_of _ (by decide +kernel)) ggX12_emptied_X12_onDeck
theorem dX12_emptied_0 : decode cX12_emptied 0 = .ok (.aload_n 0, 1) := by decide +kernel
theorem dX12_emptied_1 : decode cX12_emptied 1 = .ok (.iconst 0, 1) := by decide +kernel
theorem dX12_emptied_2 : decode cX12_emptied 2 = .ok (.putfield 1, 3) := by decide +kernel
theorem dX12_emptied_5 : decode cX12_emptied 5 = .ok (.iload_n 1, 1) := by decide +kernel
theorem dX12_emptied_6 : decode cX12_emptied 6 = .ok (.ifCond .lt 11, 3) := by decide +kernel
theorem dX12_emptied_9 : decode cX12_emptied 9 = .ok (.iload_n 1, 1) := by decide +kernel
theorem dX12_emptied_10 : decode cX12_emptied 10 = .ok (.aload_n 0, 1) := by decide +kernel
theorem dX12_emptied_11 : decode cX12_emptied 11 = .ok (.invokevirtual 130, 3) := by decide +kernel
theorem dX12_emptied_14 : decode cX12_emptied 14 = .ok (.if_icmp .lt 5, 3) := by decide +kernel
theorem dX12_emptied_17 : decode cX12_emptied 17 = .ok (.iconst (-1), 1) := by decide +kernel
theorem dX12_emptied_18 : decode cX12_emptied 18 = .ok (.ireturn, 1) := by decide +kernel
set_option maxRecDepth 20000 in
theorem ggX12_ferry_X12_list : GoodIn wsX12_ferry wsX12_list := goodIn_r _ [8, 9, 10, 11, 12, 13, 7, 14, 29, 30, 31, 32, 33, 34, 35, 36, 37, 38, 39, 40, 41, 42, 43, 44, 45, 46, 47, 48, 49, 50, 51, 52, 53, 54, 55, 56, 57, 58, 59, 60, 61, 62, 63, 64, 65, 66, 67, 68, 69, 70, 71, 72, 73, 74, 75, 76, 77, 78, 79, 80, 81, 82, 83] (by decide +kernel) (by decide +kernel)
set_option maxRecDepth 20000 in
theorem gX12_ferry_X12_list : GoodIn wsX12_ferry (wsV RX12 288 RX12 yX12_list wsX12_list) := goodIn_app (goodIn_of _ (by decide +kernel)) ggX12_ferry_X12_list
set_option maxRecDepth 20000 in
theorem ggX12_ferry_X12_load : GoodIn wsX12_ferry wsX12_load := goodIn_r _ [18, 9, 10, 11, 29, 30, 31, 32, 33, 34, 35, 36, 37, 38, 39, 40, 41, 42, 43, 44, 45, 46, 47, 48, 49, 50, 51, 52, 53, 54, 55, 56, 57, 58, 59, 60, 61, 62, 63, 64, 65, 66, 67, 68, 69, 70, 71, 72, 73, 74, 75, 76, 77, 78, 79, 80, 81, 82, 83] (by decide +kernel) (by decide +kernel)
set_option maxRecDepth 20000 in
theorem gX12_ferry_X12_load : GoodIn wsX12_ferry (wsV RX12 164 RX12 yX12_load wsX12_load) := goodIn_app (goodIn_of _ (by decide +kernel)) ggX12_ferry_X12_load
set_option maxRecDepth 20000 in
theorem ggX12_ferry_X12_needed : GoodIn wsX12_ferry wsX12_needed := goodIn_r _ [22, 9, 23, 11, 24, 29, 30, 31, 32, 33, 34, 35, 36, 37, 38, 39, 40, 41, 42, 43, 44, 45, 46, 47, 48, 49, 50, 51, 52, 53, 54, 55, 56, 57, 58, 59, 60, 61, 62, 63, 64, 65, 66, 67, 68, 69, 70, 71, 72, 73, 74, 75, 76, 77, 78, 79, 80, 81, 82, 83] (by decide +kernel) (by decide +kernel)
set_option maxRecDepth 20000 in
theorem gX12_ferry_X12_needed : GoodIn wsX12_ferry (wsV RX12 294 RX12 yX12_needed wsX12_needed) := goodIn_app (goodIn_of _ (by decide +kernel)) ggX12_ferry_X12_needed
set_option maxRecDepth 20000 in
theorem ggX12_ferry_X12_onDeck : GoodIn wsX12_ferry wsX12_onDeck := goodIn_r _ [28, 9, 29, 30, 31, 32, 33, 34, 35, 36, 37, 38, 39, 40, 41, 42, 43, 44, 45, 46, 47, 48, 49, 50, 51, 52, 53, 54, 55, 56, 57, 58, 59, 60, 61, 62, 63, 64, 65, 66, 67, 68, 69, 70, 71, 72, 73, 74, 75, 76, 77, 78, 79, 80, 81, 82, 83] (by decide +kernel) (by decide +kernel)
set_option maxRecDepth 20000 in
theorem gX12_ferry_X12_onDeck : GoodIn wsX12_ferry (wsV RX12 130 RX12 yX12_onDeck wsX12_onDeck) := goodIn_app (goodIn_of _ (by decide +kernel)) ggX12_ferry_X12_onDeck
theorem dX12_ferry_0 : decode cX12_ferry 0 = .ok (.aload_n 0, 1) := by decide +kernel
theorem dX12_ferry_1 : decode cX12_ferry 1 = .ok (.iconst 0, 1) := by decide +kernel
theorem dX12_ferry_2 : decode cX12_ferry 2 = .ok (.putfield 1, 3) := by decide +kernel
theorem dX12_ferry_5 : decode cX12_ferry 5 = .ok (.iload_n 1, 1) := by decide +kernel
theorem dX12_ferry_6 : decode cX12_ferry 6 = .ok (.tableswitch 80 0 5 #[38, 43, 48, 53, 58, 75], 38) := by decide +kernel
theorem dX12_ferry_44 : decode cX12_ferry 44 = .ok (.aload_n 0, 1) := by decide +kernel
theorem dX12_ferry_45 : decode cX12_ferry 45 = .ok (.getfield 161, 3) := by decide +kernel
theorem dX12_ferry_48 : decode cX12_ferry 48 = .ok (.ireturn, 1) := by decide +kernel
theorem dX12_ferry_49 : decode cX12_ferry 49 = .ok (.aload_n 0, 1) := by decide +kernel
theorem dX12_ferry_50 : decode cX12_ferry 50 = .ok (.invokevirtual 288, 3) := by decide +kernel
theorem dX12_ferry_53 : decode cX12_ferry 53 = .ok (.ireturn, 1) := by decide +kernel
theorem dX12_ferry_54 : decode cX12_ferry 54 = .ok (.aload_n 0, 1) := by decide +kernel
theorem dX12_ferry_55 : decode cX12_ferry 55 = .ok (.invokevirtual 164, 3) := by decide +kernel
theorem dX12_ferry_58 : decode cX12_ferry 58 = .ok (.ireturn, 1) := by decide +kernel
theorem dX12_ferry_59 : decode cX12_ferry 59 = .ok (.aload_n 0, 1) := by decide +kernel
theorem dX12_ferry_60 : decode cX12_ferry 60 = .ok (.invokevirtual 294, 3) := by decide +kernel
theorem dX12_ferry_63 : decode cX12_ferry 63 = .ok (.ireturn, 1) := by decide +kernel
theorem dX12_ferry_64 : decode cX12_ferry 64 = .ok (.aload_n 0, 1) := by decide +kernel
theorem dX12_ferry_65 : decode cX12_ferry 65 = .ok (.getfield 161, 3) := by decide +kernel
theorem dX12_ferry_68 : decode cX12_ferry 68 = .ok (.iconst 2, 1) := by decide +kernel
theorem dX12_ferry_69 : decode cX12_ferry 69 = .ok (.if_icmp .ne 10, 3) := by decide +kernel
theorem dX12_ferry_79 : decode cX12_ferry 79 = .ok (.iconst (-1), 1) := by decide +kernel
theorem dX12_ferry_80 : decode cX12_ferry 80 = .ok (.ireturn, 1) := by decide +kernel
theorem dX12_ferry_81 : decode cX12_ferry 81 = .ok (.aload_n 0, 1) := by decide +kernel
theorem dX12_ferry_82 : decode cX12_ferry 82 = .ok (.invokevirtual 130, 3) := by decide +kernel
theorem dX12_ferry_85 : decode cX12_ferry 85 = .ok (.ireturn, 1) := by decide +kernel
theorem dX12_ferry_86 : decode cX12_ferry 86 = .ok (.aload_n 0, 1) := by decide +kernel
theorem dX12_ferry_87 : decode cX12_ferry 87 = .ok (.iconst 1, 1) := by decide +kernel
theorem dX12_ferry_88 : decode cX12_ferry 88 = .ok (.putfield 1, 3) := by decide +kernel
theorem dX12_ferry_91 : decode cX12_ferry 91 = .ok (.iconst 0, 1) := by decide +kernel
theorem dX12_ferry_92 : decode cX12_ferry 92 = .ok (.ireturn, 1) := by decide +kernel
set_option maxRecDepth 20000 in
theorem ggX12_deck_X12_within : GoodIn wsX12_deck wsX12_within := goodIn_r _ [7] (by decide +kernel) (by decide +kernel)
set_option maxRecDepth 20000 in
theorem gX12_deck_X12_within : GoodIn wsX12_deck (va_wsS RX12 126 yX12_within wsX12_within) := goodIn_app (goodIn_of _ (by decide +kernel)) ggX12_deck_X12_within
theorem dX12_deck_0 : decode cX12_deck 0 = .ok (.aload_n 0, 1) := by decide +kernel
theorem dX12_deck_1 : decode cX12_deck 1 = .ok (.iconst 0, 1) := by decide +kernel
theorem dX12_deck_2 : decode cX12_deck 2 = .ok (.putfield 1, 3) := by decide +kernel
theorem dX12_deck_5 : decode cX12_deck 5 = .ok (.iload_n 1, 1) := by decide +kernel
theorem dX12_deck_6 : decode cX12_deck 6 = .ok (.iconst 0, 1) := by decide +kernel
theorem dX12_deck_7 : decode cX12_deck 7 = .ok (.iconst 3, 1) := by decide +kernel
theorem dX12_deck_8 : decode cX12_deck 8 = .ok (.invokestatic 126, 3) := by decide +kernel
theorem dX12_deck_11 : decode cX12_deck 11 = .ok (.ifCond .eq 31, 3) := by decide +kernel
theorem dX12_deck_14 : decode cX12_deck 14 = .ok (.iload_n 2, 1) := by decide +kernel
theorem dX12_deck_15 : decode cX12_deck 15 = .ok (.ifCond .lt 27, 3) := by decide +kernel
theorem dX12_deck_18 : decode cX12_deck 18 = .ok (.iload_n 2, 1) := by decide +kernel
theorem dX12_deck_19 : decode cX12_deck 19 = .ok (.aload_n 0, 1) := by decide +kernel
theorem dX12_deck_20 : decode cX12_deck 20 = .ok (.getfield 58, 3) := by decide +kernel
theorem dX12_deck_23 : decode cX12_deck 23 = .ok (.iload_n 1, 1) := by decide +kernel
theorem dX12_deck_24 : decode cX12_deck 24 = .ok (.iaload, 1) := by decide +kernel
theorem dX12_deck_25 : decode cX12_deck 25 = .ok (.if_icmp .ge 17, 3) := by decide +kernel
theorem dX12_deck_42 : decode cX12_deck 42 = .ok (.iconst (-1), 1) := by decide +kernel
theorem dX12_deck_43 : decode cX12_deck 43 = .ok (.ireturn, 1) := by decide +kernel
set_option maxRecDepth 20000 in
theorem ggX12_yard_X12_isShore : GoodIn wsX12_yard wsX12_isShore := goodIn_r _ [7] (by decide +kernel) (by decide +kernel)
set_option maxRecDepth 20000 in
theorem gX12_yard_X12_isShore : GoodIn wsX12_yard (va_wsS RX12 134 yX12_isShore wsX12_isShore) := goodIn_app (goodIn_of _ (by decide +kernel)) ggX12_yard_X12_isShore
set_option maxRecDepth 20000 in
theorem ggX12_yard_X12_within : GoodIn wsX12_yard wsX12_within := goodIn_r _ [10] (by decide +kernel) (by decide +kernel)
set_option maxRecDepth 20000 in
theorem gX12_yard_X12_within : GoodIn wsX12_yard (va_wsS RX12 126 yX12_within wsX12_within) := goodIn_app (goodIn_of _ (by decide +kernel)) ggX12_yard_X12_within
set_option maxRecDepth 20000 in
theorem ggX12_yard_X12_yardRow : GoodIn wsX12_yard wsX12_yardRow := goodIn_r _ [13] (by decide +kernel) (by decide +kernel)
set_option maxRecDepth 20000 in
theorem gX12_yard_X12_yardRow : GoodIn wsX12_yard (va_wsS RX12 141 yX12_yardRow wsX12_yardRow) := goodIn_app (goodIn_of _ (by decide +kernel)) ggX12_yard_X12_yardRow
theorem dX12_yard_0 : decode cX12_yard 0 = .ok (.aload_n 0, 1) := by decide +kernel
theorem dX12_yard_1 : decode cX12_yard 1 = .ok (.iconst 0, 1) := by decide +kernel
theorem dX12_yard_2 : decode cX12_yard 2 = .ok (.putfield 1, 3) := by decide +kernel
theorem dX12_yard_5 : decode cX12_yard 5 = .ok (.iload_n 1, 1) := by decide +kernel
theorem dX12_yard_6 : decode cX12_yard 6 = .ok (.invokestatic 134, 3) := by decide +kernel
theorem dX12_yard_9 : decode cX12_yard 9 = .ok (.ifCond .eq 16, 3) := by decide +kernel
theorem dX12_yard_12 : decode cX12_yard 12 = .ok (.iload_n 2, 1) := by decide +kernel
theorem dX12_yard_13 : decode cX12_yard 13 = .ok (.iconst 0, 1) := by decide +kernel
theorem dX12_yard_14 : decode cX12_yard 14 = .ok (.iconst 2, 1) := by decide +kernel
theorem dX12_yard_15 : decode cX12_yard 15 = .ok (.invokestatic 126, 3) := by decide +kernel
theorem dX12_yard_18 : decode cX12_yard 18 = .ok (.ifCond .eq 7, 3) := by decide +kernel
theorem dX12_yard_21 : decode cX12_yard 21 = .ok (.iload_n 3, 1) := by decide +kernel
theorem dX12_yard_22 : decode cX12_yard 22 = .ok (.ifCond .ge 5, 3) := by decide +kernel
theorem dX12_yard_25 : decode cX12_yard 25 = .ok (.iconst (-1), 1) := by decide +kernel
theorem dX12_yard_26 : decode cX12_yard 26 = .ok (.ireturn, 1) := by decide +kernel
theorem dX12_yard_27 : decode cX12_yard 27 = .ok (.iload_n 1, 1) := by decide +kernel
theorem dX12_yard_28 : decode cX12_yard 28 = .ok (.iload_n 2, 1) := by decide +kernel
theorem dX12_yard_29 : decode cX12_yard 29 = .ok (.invokestatic 141, 3) := by decide +kernel
theorem dX12_yard_32 : decode cX12_yard 32 = .ok (.istore 4, 2) := by decide +kernel
theorem dX12_yard_34 : decode cX12_yard 34 = .ok (.iload_n 3, 1) := by decide +kernel
theorem dX12_yard_35 : decode cX12_yard 35 = .ok (.aload_n 0, 1) := by decide +kernel
theorem dX12_yard_36 : decode cX12_yard 36 = .ok (.getfield 58, 3) := by decide +kernel
theorem dX12_yard_39 : decode cX12_yard 39 = .ok (.iload 4, 2) := by decide +kernel
theorem dX12_yard_41 : decode cX12_yard 41 = .ok (.iaload, 1) := by decide +kernel
theorem dX12_yard_42 : decode cX12_yard 42 = .ok (.if_icmp .ge 18, 3) := by decide +kernel
theorem dX12_yard_60 : decode cX12_yard 60 = .ok (.iconst (-1), 1) := by decide +kernel
theorem dX12_yard_61 : decode cX12_yard 61 = .ok (.ireturn, 1) := by decide +kernel
theorem dX12_of_0 : decode cX12_of 0 = .ok (.aload_n 0, 1) := by decide +kernel
theorem dX12_of_1 : decode cX12_of 1 = .ok (.iconst 0, 1) := by decide +kernel
theorem dX12_of_2 : decode cX12_of 2 = .ok (.putfield 1, 3) := by decide +kernel
theorem dX12_of_5 : decode cX12_of 5 = .ok (.iload_n 1, 1) := by decide +kernel
theorem dX12_of_6 : decode cX12_of 6 = .ok (.ifCond .lt 11, 3) := by decide +kernel
theorem dX12_of_9 : decode cX12_of 9 = .ok (.iload_n 1, 1) := by decide +kernel
theorem dX12_of_10 : decode cX12_of 10 = .ok (.aload_n 0, 1) := by decide +kernel
theorem dX12_of_11 : decode cX12_of 11 = .ok (.getfield 138, 3) := by decide +kernel
theorem dX12_of_14 : decode cX12_of 14 = .ok (.if_icmp .lt 5, 3) := by decide +kernel
theorem dX12_of_17 : decode cX12_of 17 = .ok (.iconst (-1), 1) := by decide +kernel
theorem dX12_of_18 : decode cX12_of 18 = .ok (.ireturn, 1) := by decide +kernel
theorem dX12_paid_0 : decode cX12_paid 0 = .ok (.lconst 0, 1) := by decide +kernel
theorem dX12_paid_1 : decode cX12_paid 1 = .ok (.lstore_n 2, 1) := by decide +kernel
theorem dX12_paid_2 : decode cX12_paid 2 = .ok (.iconst 0, 1) := by decide +kernel
theorem dX12_paid_3 : decode cX12_paid 3 = .ok (.istore 4, 2) := by decide +kernel
theorem dX12_paid_5 : decode cX12_paid 5 = .ok (.iload 4, 2) := by decide +kernel
theorem dX12_paid_7 : decode cX12_paid 7 = .ok (.aload_n 0, 1) := by decide +kernel
theorem dX12_paid_8 : decode cX12_paid 8 = .ok (.getfield 138, 3) := by decide +kernel
theorem dX12_paid_11 : decode cX12_paid 11 = .ok (.if_icmp .ge 16, 3) := by decide +kernel
theorem dX12_paid_27 : decode cX12_paid 27 = .ok (.lload_n 2, 1) := by decide +kernel
theorem dX12_paid_28 : decode cX12_paid 28 = .ok (.lreturn, 1) := by decide +kernel
set_option maxRecDepth 20000 in
theorem ggX12_count_X12_inForce : GoodIn wsX12_count wsX12_inForce := goodIn_r _ [15, 4, 16, 2, 21, 22, 23, 24, 25, 26, 27, 28, 29, 30, 31, 32, 33, 34, 35, 36, 37, 38, 39, 40, 41, 42, 43, 44, 45, 46, 47, 48, 49, 50, 51, 52, 53, 54, 55, 56, 57, 58, 59, 60, 61, 62, 63, 64, 65, 66, 67, 68, 69, 70, 71, 72, 73, 74, 75] (by decide +kernel) (by decide +kernel)
set_option maxRecDepth 20000 in
theorem gX12_count_X12_inForce : GoodIn wsX12_count (wsV RX12 176 RX12 yX12_inForce wsX12_inForce) := goodIn_app (goodIn_of _ (by decide +kernel)) ggX12_count_X12_inForce
set_option maxRecDepth 20000 in
theorem ggX12_count_X12_paid : GoodIn wsX12_count wsX12_paid := goodIn_r _ [20, 3, 21, 22, 23, 24, 25, 26, 27, 28, 29, 30, 31, 32, 33, 34, 35, 36, 37, 38, 39, 40, 41, 42, 43, 44, 45, 46, 47, 48, 49, 50, 51, 52, 53, 54, 55, 56, 57, 58, 59, 60, 61, 62, 63, 64, 65, 66, 67, 68, 69, 70, 71, 72, 73, 74, 75] (by decide +kernel) (by decide +kernel)
set_option maxRecDepth 20000 in
theorem gX12_count_X12_paid : GoodIn wsX12_count (wsV RX12 340 RX12 yX12_paid wsX12_paid) := goodIn_app (goodIn_of _ (by decide +kernel)) ggX12_count_X12_paid
theorem dX12_count_0 : decode cX12_count 0 = .ok (.aload_n 0, 1) := by decide +kernel
theorem dX12_count_1 : decode cX12_count 1 = .ok (.iconst 0, 1) := by decide +kernel
theorem dX12_count_2 : decode cX12_count 2 = .ok (.putfield 1, 3) := by decide +kernel
theorem dX12_count_5 : decode cX12_count 5 = .ok (.iload_n 1, 1) := by decide +kernel
theorem dX12_count_6 : decode cX12_count 6 = .ok (.tableswitch 110 0 8 #[50, 56, 62, 68, 74, 80, 86, 95, 104], 50) := by decide +kernel
theorem dX12_count_56 : decode cX12_count 56 = .ok (.aload_n 0, 1) := by decide +kernel
theorem dX12_count_57 : decode cX12_count 57 = .ok (.getfield 152, 3) := by decide +kernel
theorem dX12_count_60 : decode cX12_count 60 = .ok (.i2l, 1) := by decide +kernel
theorem dX12_count_61 : decode cX12_count 61 = .ok (.lreturn, 1) := by decide +kernel
theorem dX12_count_62 : decode cX12_count 62 = .ok (.aload_n 0, 1) := by decide +kernel
theorem dX12_count_63 : decode cX12_count 63 = .ok (.getfield 138, 3) := by decide +kernel
theorem dX12_count_66 : decode cX12_count 66 = .ok (.i2l, 1) := by decide +kernel
theorem dX12_count_67 : decode cX12_count 67 = .ok (.lreturn, 1) := by decide +kernel
theorem dX12_count_68 : decode cX12_count 68 = .ok (.aload_n 0, 1) := by decide +kernel
theorem dX12_count_69 : decode cX12_count 69 = .ok (.getfield 193, 3) := by decide +kernel
theorem dX12_count_72 : decode cX12_count 72 = .ok (.i2l, 1) := by decide +kernel
theorem dX12_count_73 : decode cX12_count 73 = .ok (.lreturn, 1) := by decide +kernel
theorem dX12_count_74 : decode cX12_count 74 = .ok (.aload_n 0, 1) := by decide +kernel
theorem dX12_count_75 : decode cX12_count 75 = .ok (.invokevirtual 176, 3) := by decide +kernel
theorem dX12_count_78 : decode cX12_count 78 = .ok (.i2l, 1) := by decide +kernel
theorem dX12_count_79 : decode cX12_count 79 = .ok (.lreturn, 1) := by decide +kernel
theorem dX12_count_80 : decode cX12_count 80 = .ok (.aload_n 0, 1) := by decide +kernel
theorem dX12_count_81 : decode cX12_count 81 = .ok (.getfield 196, 3) := by decide +kernel
theorem dX12_count_84 : decode cX12_count 84 = .ok (.i2l, 1) := by decide +kernel
theorem dX12_count_85 : decode cX12_count 85 = .ok (.lreturn, 1) := by decide +kernel
theorem dX12_count_86 : decode cX12_count 86 = .ok (.aload_n 0, 1) := by decide +kernel
theorem dX12_count_87 : decode cX12_count 87 = .ok (.getfield 158, 3) := by decide +kernel
theorem dX12_count_90 : decode cX12_count 90 = .ok (.i2l, 1) := by decide +kernel
theorem dX12_count_91 : decode cX12_count 91 = .ok (.lreturn, 1) := by decide +kernel
theorem dX12_count_92 : decode cX12_count 92 = .ok (.aload_n 0, 1) := by decide +kernel
theorem dX12_count_93 : decode cX12_count 93 = .ok (.aload_n 0, 1) := by decide +kernel
theorem dX12_count_94 : decode cX12_count 94 = .ok (.getfield 48, 3) := by decide +kernel
theorem dX12_count_97 : decode cX12_count 97 = .ok (.invokevirtual 340, 3) := by decide +kernel
theorem dX12_count_100 : decode cX12_count 100 = .ok (.lreturn, 1) := by decide +kernel
theorem dX12_count_101 : decode cX12_count 101 = .ok (.aload_n 0, 1) := by decide +kernel
theorem dX12_count_102 : decode cX12_count 102 = .ok (.aload_n 0, 1) := by decide +kernel
theorem dX12_count_103 : decode cX12_count 103 = .ok (.getfield 52, 3) := by decide +kernel
theorem dX12_count_106 : decode cX12_count 106 = .ok (.invokevirtual 340, 3) := by decide +kernel
theorem dX12_count_109 : decode cX12_count 109 = .ok (.lreturn, 1) := by decide +kernel
theorem dX12_count_110 : decode cX12_count 110 = .ok (.aload_n 0, 1) := by decide +kernel
theorem dX12_count_111 : decode cX12_count 111 = .ok (.getfield 297, 3) := by decide +kernel
theorem dX12_count_114 : decode cX12_count 114 = .ok (.i2l, 1) := by decide +kernel
theorem dX12_count_115 : decode cX12_count 115 = .ok (.lreturn, 1) := by decide +kernel
theorem dX12_count_116 : decode cX12_count 116 = .ok (.ldc2_w 344, 3) := by decide +kernel
theorem dX12_count_119 : decode cX12_count 119 = .ok (.lreturn, 1) := by decide +kernel
theorem dJ7_fill_53178_0 : decode cJ7_fill_53178 0 = .ok (.iconst 0, 1) := by decide +kernel
theorem dJ7_fill_53178_1 : decode cJ7_fill_53178 1 = .ok (.istore_n 2, 1) := by decide +kernel
theorem dJ7_fill_53178_2 : decode cJ7_fill_53178 2 = .ok (.aload_n 0, 1) := by decide +kernel
theorem dJ7_fill_53178_3 : decode cJ7_fill_53178 3 = .ok (.arraylength, 1) := by decide +kernel
theorem dJ7_fill_53178_4 : decode cJ7_fill_53178 4 = .ok (.istore_n 3, 1) := by decide +kernel
theorem dJ7_fill_53178_5 : decode cJ7_fill_53178 5 = .ok (.iload_n 2, 1) := by decide +kernel
theorem dJ7_fill_53178_6 : decode cJ7_fill_53178 6 = .ok (.iload_n 3, 1) := by decide +kernel
theorem dJ7_fill_53178_7 : decode cJ7_fill_53178 7 = .ok (.if_icmp .ge 13, 3) := by decide +kernel
theorem dJ7_fill_53178_10 : decode cJ7_fill_53178 10 = .ok (.aload_n 0, 1) := by decide +kernel
theorem dJ7_fill_53178_11 : decode cJ7_fill_53178 11 = .ok (.iload_n 2, 1) := by decide +kernel
theorem dJ7_fill_53178_12 : decode cJ7_fill_53178 12 = .ok (.iload_n 1, 1) := by decide +kernel
theorem dJ7_fill_53178_13 : decode cJ7_fill_53178 13 = .ok (.iastore, 1) := by decide +kernel
theorem dJ7_fill_53178_14 : decode cJ7_fill_53178 14 = .ok (.iinc 2 1, 3) := by decide +kernel
theorem dJ7_fill_53178_17 : decode cJ7_fill_53178 17 = .ok (.goto (-12), 3) := by decide +kernel
theorem dJ7_fill_53178_20 : decode cJ7_fill_53178 20 = .ok (.return_, 1) := by decide +kernel
set_option maxRecDepth 20000 in
theorem ggL_isOpen_X11_isOpen : GoodIn wsL_isOpen wsX11_isOpen := goodIn_ca (goodIn_r _ [6, 7, 8, 9, 10, 5, 11, 12, 13, 14, 15, 16, 17, 18, 19, 20, 21, 22, 23, 24, 25, 26, 27, 28, 29, 30, 31, 32, 33, 34, 35, 36, 37, 38, 39, 40, 41, 42, 43, 44, 45, 46, 47, 48, 49, 50, 51, 52, 53, 54, 55, 56, 57, 58, 59, 60, 61, 62, 63, 64, 65, 66, 67, 68, 69, 70, 71, 72, 73, 74, 75, 76, 77, 78] (by decide +kernel) (by decide +kernel)) (goodIn_sub (fun _ h => List.mem_cons_of_mem _ (List.mem_append_right _ h)) (by decide +kernel))
set_option maxRecDepth 20000 in
theorem gL_isOpen_X11_isOpen : GoodIn wsL_isOpen (wsV RL 7 RX11 yX11_isOpen wsX11_isOpen) := goodIn_app (goodIn_of _ (by decide +kernel)) ggL_isOpen_X11_isOpen
theorem dL_isOpen_0 : decode cL_isOpen 0 = .ok (.aload_n 2, 1) := by decide +kernel
theorem dL_isOpen_1 : decode cL_isOpen 1 = .ok (.iconst 0, 1) := by decide +kernel
theorem dL_isOpen_2 : decode cL_isOpen 2 = .ok (.aload_n 0, 1) := by decide +kernel
theorem dL_isOpen_3 : decode cL_isOpen 3 = .ok (.iload_n 1, 1) := by decide +kernel
theorem dL_isOpen_4 : decode cL_isOpen 4 = .ok (.invokevirtual 7, 3) := by decide +kernel
theorem dL_isOpen_7 : decode cL_isOpen 7 = .ok (.ifCond .eq 7, 3) := by decide +kernel
theorem dL_isOpen_10 : decode cL_isOpen 10 = .ok (.lconst 1, 1) := by decide +kernel
theorem dL_isOpen_11 : decode cL_isOpen 11 = .ok (.goto 4, 3) := by decide +kernel
theorem dL_isOpen_14 : decode cL_isOpen 14 = .ok (.lconst 0, 1) := by decide +kernel
theorem dL_isOpen_15 : decode cL_isOpen 15 = .ok (.lastore, 1) := by decide +kernel
theorem dL_isOpen_16 : decode cL_isOpen 16 = .ok (.goto 6, 3) := by decide +kernel
theorem dL_isOpen_19 : decode cL_isOpen 19 = .ok (.astore_n 3, 1) := by decide +kernel
theorem dL_isOpen_20 : decode cL_isOpen 20 = .ok (.iconst 1, 1) := by decide +kernel
theorem dL_isOpen_21 : decode cL_isOpen 21 = .ok (.ireturn, 1) := by decide +kernel
theorem dL_isOpen_22 : decode cL_isOpen 22 = .ok (.iconst 0, 1) := by decide +kernel
theorem dL_isOpen_23 : decode cL_isOpen 23 = .ok (.ireturn, 1) := by decide +kernel
set_option maxRecDepth 20000 in
theorem ggL_ferry_X11_ferry : GoodIn wsL_ferry wsX11_ferry := goodIn_ca (goodIn_r _ [6, 7, 8, 9, 10, 11, 12, 13, 14, 15, 16, 17, 18, 19, 20, 21, 22, 23, 24, 25, 26, 27, 28, 29, 30, 31, 32, 33, 34, 35, 36, 37, 38, 39, 40, 41, 42, 43, 44, 45, 46, 47, 48, 49, 50, 51, 52] (by decide +kernel) (by decide +kernel)) (goodIn_sub (fun _ h => List.mem_cons_of_mem _ (List.mem_append_right _ h)) (by decide +kernel))
set_option maxRecDepth 20000 in
theorem gL_ferry_X11_ferry : GoodIn wsL_ferry (wsV RL 15 RX11 yX11_ferry wsX11_ferry) := goodIn_app (goodIn_of _ (by decide +kernel)) ggL_ferry_X11_ferry
theorem dL_ferry_0 : decode cL_ferry 0 = .ok (.aload_n 2, 1) := by decide +kernel
theorem dL_ferry_1 : decode cL_ferry 1 = .ok (.iconst 0, 1) := by decide +kernel
theorem dL_ferry_2 : decode cL_ferry 2 = .ok (.aload_n 0, 1) := by decide +kernel
theorem dL_ferry_3 : decode cL_ferry 3 = .ok (.iload_n 1, 1) := by decide +kernel
theorem dL_ferry_4 : decode cL_ferry 4 = .ok (.invokevirtual 15, 3) := by decide +kernel
theorem dL_ferry_7 : decode cL_ferry 7 = .ok (.i2l, 1) := by decide +kernel
theorem dL_ferry_8 : decode cL_ferry 8 = .ok (.lastore, 1) := by decide +kernel
theorem dL_ferry_9 : decode cL_ferry 9 = .ok (.goto 6, 3) := by decide +kernel
theorem dL_ferry_12 : decode cL_ferry 12 = .ok (.astore_n 3, 1) := by decide +kernel
theorem dL_ferry_13 : decode cL_ferry 13 = .ok (.iconst 1, 1) := by decide +kernel
theorem dL_ferry_14 : decode cL_ferry 14 = .ok (.ireturn, 1) := by decide +kernel
theorem dL_ferry_15 : decode cL_ferry 15 = .ok (.iconst 0, 1) := by decide +kernel
theorem dL_ferry_16 : decode cL_ferry 16 = .ok (.ireturn, 1) := by decide +kernel
set_option maxRecDepth 20000 in
theorem ggL_law_X11_init : GoodIn wsL_law wsX11_init := goodIn_r _ [9, 10, 11, 12, 13, 14, 15, 16, 17, 18, 19, 20, 21, 22, 23, 24, 25, 26, 27, 28, 29, 30, 31, 32, 33, 34, 35, 36, 37, 38, 39, 40, 41, 42, 43, 44, 45, 46, 47, 48, 49, 50, 51, 52, 53, 54, 55, 56, 57, 58, 59, 60, 61, 62, 63, 64, 65, 66, 67, 68, 69, 70, 71, 72, 73, 74, 75, 76, 77, 78, 79, 80, 81, 82, 83, 84, 85, 86, 87, 88, 89, 90, 91, 92, 93, 94, 95, 96, 97, 98, 99, 100, 101, 102, 103, 104, 105, 106, 107, 108, 109, 110, 111, 112, 113, 114, 115, 116, 117, 1077, 1078, 1079, 1004, 1005, 1006, 1007, 1008, 1009, 1010, 1011, 1012, 1013, 1014, 1015, 1016, 1017, 1018, 1019, 1020, 1021, 1080, 1081, 1082, 1083, 1084, 1085, 1086, 1087, 1088, 1089, 1090, 1091, 1092, 1093, 1094, 1095, 1096, 1097, 1098, 1099, 1100, 1101, 1102, 1103, 1104, 1105, 1106] (by decide +kernel) (by decide +kernel)
set_option maxRecDepth 20000 in
theorem gL_law_X11_init : GoodIn wsL_law (wsX11_init) := ggL_law_X11_init
set_option maxRecDepth 20000 in
theorem ggL_law_X12_init : GoodIn wsL_law wsX12_init := goodIn_r _ [120, 121, 11, 12, 122, 123, 124, 125, 126, 127, 74, 128, 129, 130, 131, 132, 133, 6, 134, 135, 136, 137, 138, 139, 140, 141, 142, 143, 144, 145, 146, 147, 148, 149, 150, 151, 152, 153, 154, 155, 156, 157, 158, 1022, 1023, 1024, 1025, 1026, 1027, 1028, 1029, 1030, 1031, 1032, 1033, 1034, 1035, 1036, 1037, 1038, 1039, 1040, 1041, 1042, 1043, 1044, 1045, 1046, 1047, 1048, 1049, 1050, 1051, 1052, 1053, 1054, 1055, 1056, 1057, 1058, 1059, 1060, 1061, 1062, 1063, 1064, 1065, 1066, 1067, 1068, 1069, 1070, 1071, 1072, 1073, 1074, 1075, 1076] (by decide +kernel) (by decide +kernel)
set_option maxRecDepth 20000 in
theorem gL_law_X12_init : GoodIn wsL_law (wsX12_init) := ggL_law_X12_init
set_option maxRecDepth 20000 in
theorem ggL_law_X11_ship : GoodIn wsL_law wsX11_ship := goodIn_r _ [162, 20, 163, 164, 165, 166, 43, 44, 167, 168, 2, 169, 1004, 1005, 1006, 1007, 1008, 1009, 1010, 1011, 1012, 1013, 1014, 1015, 1016, 1017, 1018, 1019, 1020, 1021, 1080, 1081, 1095, 1096, 1097, 1098, 1099, 1100, 1101, 1102, 1103, 1104] (by decide +kernel) (by decide +kernel)
set_option maxRecDepth 20000 in
theorem gL_law_X11_ship : GoodIn wsL_law (wsV RL 23 RX11 yX11_ship wsX11_ship) := goodIn_app (goodIn_of _ (by decide +kernel)) ggL_law_X11_ship
set_option maxRecDepth 20000 in
theorem ggL_law_X12_ship : GoodIn wsL_law wsX12_ship := goodIn_r _ [173, 174, 122, 123, 124, 125, 175, 176, 5, 177, 178, 179, 180, 181, 137, 1022, 1023, 1024, 1025, 1026, 1027, 1028, 1029, 1030, 1031, 1032, 1033, 1034, 1035, 1036, 1037, 1038, 1039, 1040, 1041, 1042, 1043, 1044, 1045, 1046, 1047, 1048, 1049, 1050, 1051, 1052, 1053, 1054, 1055, 1056, 1057, 1058, 1059, 1060, 1061, 1062, 1063, 1064, 1065, 1066, 1067, 1068, 1069, 1070, 1071, 1072, 1073, 1074, 1075, 1076] (by decide +kernel) (by decide +kernel)
set_option maxRecDepth 20000 in
theorem gL_law_X12_ship : GoodIn wsL_law (wsV RL 27 RX12 yX12_ship wsX12_ship) := goodIn_app (goodIn_of _ (by decide +kernel)) ggL_law_X12_ship
set_option maxRecDepth 20000 in
theorem ggL_law_X11_wagon : GoodIn wsL_law wsX11_wagon := goodIn_r _ [185, 36, 21, 186, 187, 22, 188, 189, 190, 191, 2, 192, 16, 193, 194, 195, 196, 167, 168, 169, 197, 198, 199, 50, 200, 59, 66, 60, 201, 202, 203, 204, 11, 12, 74, 205, 206, 207, 208, 209, 210, 211, 212, 213, 214, 215, 216, 217, 218, 219, 220, 221, 222, 223, 224, 225, 1004, 1005, 1006, 1007, 1008, 1009, 1010, 1011, 1012, 1013, 1014, 1015, 1016, 1017, 1018, 1019, 1020, 1021, 1107, 1108, 1109, 1110, 1111, 1112, 1113, 1114, 1115, 1116, 1117, 1118, 1077, 1078, 1079, 1092, 1093, 1094] (by decide +kernel) (by decide +kernel)
set_option maxRecDepth 20000 in
theorem gL_law_X11_wagon : GoodIn wsL_law (wsV RL 28 RX11 yX11_wagon wsX11_wagon) := goodIn_app (goodIn_of _ (by decide +kernel)) ggL_law_X11_wagon
set_option maxRecDepth 20000 in
theorem ggL_law_X12_wagon : GoodIn wsL_law wsX12_wagon := goodIn_r _ [229, 174, 230, 128, 129, 130, 131, 132, 231, 232, 5, 233, 175, 176, 177, 234, 235, 236, 237, 238, 239, 240, 137, 136, 241, 242, 243, 244, 1022, 1023, 1024, 1025, 1026, 1027, 1028, 1029, 1030, 1031, 1032, 1033, 1034, 1035, 1036, 1037, 1038, 1039, 1040, 1041, 1042, 1043, 1044, 1045, 1046, 1047, 1048, 1049, 1050, 1051, 1052, 1053, 1054, 1055, 1056, 1057, 1058, 1059, 1060, 1061, 1062, 1063, 1064, 1065, 1066, 1067, 1068, 1069, 1070, 1071, 1072, 1073, 1074, 1075, 1076] (by decide +kernel) (by decide +kernel)
set_option maxRecDepth 20000 in
theorem gL_law_X12_wagon : GoodIn wsL_law (wsV RL 32 RX12 yX12_wagon wsX12_wagon) := goodIn_app (goodIn_of _ (by decide +kernel)) ggL_law_X12_wagon
set_option maxRecDepth 20000 in
theorem ggL_law_X11_tide : GoodIn wsL_law wsX11_tide := goodIn_r _ [248, 16, 249, 250, 194, 195, 2, 196, 167, 168, 169, 251, 252, 253, 254, 37, 255, 256, 257, 31, 258, 71, 75, 76, 1004, 1005, 1006, 1007, 1008, 1009, 1010, 1011, 1012, 1013, 1014, 1015, 1016, 1017, 1018, 1019, 1020, 1021, 1077, 1078, 1079, 1088, 1089, 1090, 1091] (by decide +kernel) (by decide +kernel)
set_option maxRecDepth 20000 in
theorem gL_law_X11_tide : GoodIn wsL_law (wsV RL 33 RX11 yX11_tide wsX11_tide) := goodIn_app (goodIn_of _ (by decide +kernel)) ggL_law_X11_tide
set_option maxRecDepth 20000 in
theorem ggL_law_X12_tide : GoodIn wsL_law wsX12_tide := goodIn_r _ [262, 174, 263, 264, 138, 139, 140, 231, 232, 5, 233, 175, 176, 177, 1022, 1023, 1024, 1025, 1026, 1027, 1028, 1029, 1030, 1031, 1032, 1033, 1034, 1035, 1036, 1037, 1038, 1039, 1040, 1041, 1042, 1043, 1044, 1045, 1046, 1047, 1048, 1049, 1050, 1051, 1052, 1053, 1054, 1055, 1056, 1057, 1058, 1059, 1060, 1061, 1062, 1063, 1064, 1065, 1066, 1067, 1068, 1069, 1070, 1071, 1072, 1073, 1074, 1075, 1076] (by decide +kernel) (by decide +kernel)
set_option maxRecDepth 20000 in
theorem gL_law_X12_tide : GoodIn wsL_law (wsV RL 37 RX12 yX12_tide wsX12_tide) := goodIn_app (goodIn_of _ (by decide +kernel)) ggL_law_X12_tide
set_option maxRecDepth 20000 in
theorem ggL_law_X11_sea : GoodIn wsL_law wsX11_sea := goodIn_r _ [268, 42, 167, 168, 2, 169, 1004, 1005, 1006, 1007, 1008, 1009, 1010, 1011, 1012, 1013, 1014, 1015, 1016, 1017, 1018, 1019, 1020, 1021] (by decide +kernel) (by decide +kernel)
set_option maxRecDepth 20000 in
theorem gL_law_X11_sea : GoodIn wsL_law (wsV RL 38 RX11 yX11_sea wsX11_sea) := goodIn_app (goodIn_of _ (by decide +kernel)) ggL_law_X11_sea
set_option maxRecDepth 20000 in
theorem ggL_law_X12_sea : GoodIn wsL_law wsX12_sea := goodIn_r _ [272, 174, 273, 175, 176, 5, 177, 1022, 1023, 1024, 1025, 1026, 1027, 1028, 1029, 1030, 1031, 1032, 1033, 1034, 1035, 1036, 1037, 1038, 1039, 1040, 1041, 1042, 1043, 1044, 1045, 1046, 1047, 1048, 1049, 1050, 1051, 1052, 1053, 1054, 1055, 1056, 1057, 1058, 1059, 1060, 1061, 1062, 1063, 1064, 1065, 1066, 1067, 1068, 1069, 1070, 1071, 1072, 1073, 1074, 1075, 1076] (by decide +kernel) (by decide +kernel)
set_option maxRecDepth 20000 in
theorem gL_law_X12_sea : GoodIn wsL_law (wsV RL 41 RX12 yX12_sea wsX12_sea) := goodIn_app (goodIn_of _ (by decide +kernel)) ggL_law_X12_sea
set_option maxRecDepth 20000 in
theorem ggL_law_X11_ramp : GoodIn wsL_law wsX11_ramp := goodIn_r _ [277, 16, 278, 194, 195, 2, 196, 167, 168, 169, 1004, 1005, 1006, 1007, 1008, 1009, 1010, 1011, 1012, 1013, 1014, 1015, 1016, 1017, 1018, 1019, 1020, 1021, 1077, 1078, 1079] (by decide +kernel) (by decide +kernel)
set_option maxRecDepth 20000 in
theorem gL_law_X11_ramp : GoodIn wsL_law (wsV RL 42 RX11 yX11_ramp wsX11_ramp) := goodIn_app (goodIn_of _ (by decide +kernel)) ggL_law_X11_ramp
set_option maxRecDepth 20000 in
theorem ggL_law_X12_ramp : GoodIn wsL_law wsX12_ramp := goodIn_r _ [282, 174, 127, 231, 232, 5, 233, 1022, 1023, 1024, 1025, 1026, 1027, 1028, 1029, 1030, 1031, 1032, 1033, 1034, 1035, 1036, 1037, 1038, 1039, 1040, 1041, 1042, 1043, 1044, 1045, 1046, 1047, 1048, 1049, 1050, 1051, 1052, 1053, 1054, 1055, 1056, 1057, 1058, 1059, 1060, 1061, 1062, 1063, 1064, 1065, 1066, 1067, 1068, 1069, 1070, 1071, 1072, 1073, 1074, 1075, 1076] (by decide +kernel) (by decide +kernel)
set_option maxRecDepth 20000 in
theorem gL_law_X12_ramp : GoodIn wsL_law (wsV RL 46 RX12 yX12_ramp wsX12_ramp) := goodIn_app (goodIn_of _ (by decide +kernel)) ggL_law_X12_ramp
set_option maxRecDepth 20000 in
theorem ggL_law_X11_ticks : GoodIn wsL_law wsX11_ticks := goodIn_r _ [286, 37, 167, 168, 2, 169, 287, 288, 289, 290, 36, 22, 291, 292, 38, 40, 39, 293, 294, 295, 296, 42, 297, 298, 299, 300, 16, 249, 278, 20, 163, 301, 43, 302, 303, 304, 31, 305, 72, 71, 75, 306, 307, 308, 309, 76, 310, 311, 312, 313, 314, 32, 250, 28, 315, 316, 317, 187, 318, 205, 206, 319, 207, 208, 320, 321, 322, 323, 324, 325, 326, 327, 1004, 1005, 1006, 1007, 1008, 1009, 1010, 1011, 1012, 1013, 1014, 1015, 1016, 1017, 1018, 1019, 1020, 1021, 1107, 1108, 1109, 1110, 1111, 1112, 1113, 1114, 1115, 1116, 1117, 1118, 1077, 1078, 1079, 1080, 1081, 1095, 1096, 1097, 1098, 1099, 1100, 1101, 1102, 1103, 1104, 1088, 1089, 1090, 1091, 1119, 1120, 1121] (by decide +kernel) (by decide +kernel)
set_option maxRecDepth 20000 in
theorem gL_law_X11_ticks : GoodIn wsL_law (wsV RL 47 RX11 yX11_ticks wsX11_ticks) := goodIn_app (goodIn_of _ (by decide +kernel)) ggL_law_X11_ticks
set_option maxRecDepth 20000 in
theorem ggL_law_X12_ticks : GoodIn wsL_law wsX12_ticks := goodIn_r _ [331, 174, 263, 175, 176, 5, 177, 332, 333, 334, 335, 137, 136, 131, 132, 336, 337, 338, 339, 340, 341, 342, 343, 141, 344, 345, 346, 347, 264, 138, 139, 127, 140, 124, 348, 349, 350, 351, 129, 352, 353, 354, 355, 356, 357, 358, 273, 234, 235, 236, 359, 360, 361, 362, 133, 142, 143, 144, 134, 135, 1022, 1023, 1024, 1025, 1026, 1027, 1028, 1029, 1030, 1031, 1032, 1033, 1034, 1035, 1036, 1037, 1038, 1039, 1040, 1041, 1042, 1043, 1044, 1045, 1046, 1047, 1048, 1049, 1050, 1051, 1052, 1053, 1054, 1055, 1056, 1057, 1058, 1059, 1060, 1061, 1062, 1063, 1064, 1065, 1066, 1067, 1068, 1069, 1070, 1071, 1072, 1073, 1074, 1075, 1076] (by decide +kernel) (by decide +kernel)
set_option maxRecDepth 20000 in
theorem gL_law_X12_ticks : GoodIn wsL_law (wsV RL 50 RX12 yX12_ticks wsX12_ticks) := goodIn_app (goodIn_of _ (by decide +kernel)) ggL_law_X12_ticks
set_option maxRecDepth 20000 in
theorem ggL_law_X11_feed : GoodIn wsL_law wsX11_feed := goodIn_r _ [366, 26, 367, 368, 369, 370, 371, 105, 372, 116, 115, 1004, 1005, 1006, 1007, 1008, 1009, 1010, 1011, 1012, 1013, 1014, 1015, 1016, 1017, 1018, 1019, 1020, 1021, 1082, 1083, 1084, 1085, 1086, 1087, 1105, 1106] (by decide +kernel) (by decide +kernel)
set_option maxRecDepth 20000 in
theorem gL_law_X11_feed : GoodIn wsL_law (wsV RL 51 RX11 yX11_feed wsX11_feed) := goodIn_app (goodIn_of _ (by decide +kernel)) ggL_law_X11_feed
set_option maxRecDepth 20000 in
theorem ggL_law_X12_feed : GoodIn wsL_law wsX12_feed := goodIn_r _ [376, 174, 377, 146, 1022, 1023, 1024, 1025, 1026, 1027, 1028, 1029, 1030, 1031, 1032, 1033, 1034, 1035, 1036, 1037, 1038, 1039, 1040, 1041, 1042, 1043, 1044, 1045, 1046, 1047, 1048, 1049, 1050, 1051, 1052, 1053, 1054, 1055, 1056, 1057, 1058, 1059, 1060, 1061, 1062, 1063, 1064, 1065, 1066, 1067, 1068, 1069, 1070, 1071, 1072, 1073, 1074, 1075, 1076] (by decide +kernel) (by decide +kernel)
set_option maxRecDepth 20000 in
theorem gL_law_X12_feed : GoodIn wsL_law (wsV RL 54 RX12 yX12_feed wsX12_feed) := goodIn_app (goodIn_of _ (by decide +kernel)) ggL_law_X12_feed
