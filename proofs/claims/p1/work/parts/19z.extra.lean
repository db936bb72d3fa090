/-! printed names that the parts behind need besides -/
set_option maxRecDepth 20000 in
theorem ggX11_isOpen_X11_isShore : GoodIn wsX11_isOpen wsX11_isShore := goodIn_r _ [6, 7, 8, 5, 9] (by decide +kernel) (by decide +kernel)
set_option maxRecDepth 20000 in
theorem gX11_isOpen_X11_isShore : GoodIn wsX11_isOpen (va_wsS RX11 134 yX11_isShore wsX11_isShore) := goodIn_app (goodIn_of _ (by decide +kernel)) ggX11_isOpen_X11_isShore
set_option maxRecDepth 20000 in
theorem ggX11_isOpen_X11_rampIsOpen : GoodIn wsX11_isOpen wsX11_rampIsOpen := goodIn_r _ [13, 14, 15, 16, 17, 18, 19, 20, 21, 22, 23, 24, 25, 26, 27, 28, 29, 30, 31, 32, 33, 34, 35, 36, 7, 8, 5, 9, 37, 38, 39, 40, 41, 42, 43, 44, 45, 46, 47, 48, 49, 50, 51, 52, 53, 54, 55, 56, 57, 58, 59, 60, 61, 62, 63, 64, 65, 66, 67, 68, 69, 70, 71, 72, 73] (by decide +kernel) (by decide +kernel)
set_option maxRecDepth 20000 in
theorem gX11_isOpen_X11_rampIsOpen : GoodIn wsX11_isOpen (wsV RX11 183 RX11 yX11_rampIsOpen wsX11_rampIsOpen) := goodIn_app (goodIn_of _ (by decide +kernel)) ggX11_isOpen_X11_rampIsOpen
theorem dX11_isOpen_0 : decode cX11_isOpen 0 = .ok (.iload_n 1, 1) := by decide +kernel
theorem dX11_isOpen_1 : decode cX11_isOpen 1 = .ok (.invokestatic 134, 3) := by decide +kernel
theorem dX11_isOpen_4 : decode cX11_isOpen 4 = .ok (.ifCond .ne 14, 3) := by decide +kernel
theorem dX11_isOpen_7 : decode cX11_isOpen 7 = .ok (.new 270, 3) := by decide +kernel
theorem dX11_isOpen_10 : decode cX11_isOpen 10 = .ok (.dup, 1) := by decide +kernel
theorem dX11_isOpen_11 : decode cX11_isOpen 11 = .ok (.ldc_w 272, 3) := by decide +kernel
theorem dX11_isOpen_14 : decode cX11_isOpen 14 = .ok (.invokespecial 274, 3) := by decide +kernel
theorem dX11_isOpen_17 : decode cX11_isOpen 17 = .ok (.athrow, 1) := by decide +kernel
theorem dX11_isOpen_18 : decode cX11_isOpen 18 = .ok (.aload_n 0, 1) := by decide +kernel
theorem dX11_isOpen_19 : decode cX11_isOpen 19 = .ok (.iload_n 1, 1) := by decide +kernel
theorem dX11_isOpen_20 : decode cX11_isOpen 20 = .ok (.invokevirtual 183, 3) := by decide +kernel
theorem dX11_isOpen_23 : decode cX11_isOpen 23 = .ok (.ireturn, 1) := by decide +kernel
set_option maxRecDepth 20000 in
theorem ggX11_ferry_X8_chainsNeeded : GoodIn wsX11_ferry wsX8_chainsNeeded := goodIn_r _ [15, 16, 37, 38, 39, 40, 41, 42, 43, 44, 45, 46] (by decide +kernel) (by decide +kernel)
set_option maxRecDepth 20000 in
theorem gX11_ferry_X8_chainsNeeded : GoodIn wsX11_ferry (wsV RX11 228 RX8 yX8_chainsNeeded wsX8_chainsNeeded) := goodIn_app (goodIn_of _ (by decide +kernel)) ggX11_ferry_X8_chainsNeeded
theorem dX11_ferry_0 : decode cX11_ferry 0 = .ok (.iload_n 1, 1) := by decide +kernel
theorem dX11_ferry_1 : decode cX11_ferry 1 = .ok (.tableswitch 97 0 5 #[39, 44, 55, 66, 81, 86], 39) := by decide +kernel
theorem dX11_ferry_40 : decode cX11_ferry 40 = .ok (.aload_n 0, 1) := by decide +kernel
theorem dX11_ferry_41 : decode cX11_ferry 41 = .ok (.getfield 70, 3) := by decide +kernel
theorem dX11_ferry_44 : decode cX11_ferry 44 = .ok (.ireturn, 1) := by decide +kernel
theorem dX11_ferry_45 : decode cX11_ferry 45 = .ok (.aload_n 0, 1) := by decide +kernel
theorem dX11_ferry_46 : decode cX11_ferry 46 = .ok (.getfield 19, 3) := by decide +kernel
theorem dX11_ferry_49 : decode cX11_ferry 49 = .ok (.getfield 95, 3) := by decide +kernel
theorem dX11_ferry_52 : decode cX11_ferry 52 = .ok (.getfield 209, 3) := by decide +kernel
theorem dX11_ferry_55 : decode cX11_ferry 55 = .ok (.ireturn, 1) := by decide +kernel
theorem dX11_ferry_56 : decode cX11_ferry 56 = .ok (.aload_n 0, 1) := by decide +kernel
theorem dX11_ferry_57 : decode cX11_ferry 57 = .ok (.getfield 19, 3) := by decide +kernel
theorem dX11_ferry_60 : decode cX11_ferry 60 = .ok (.getfield 95, 3) := by decide +kernel
theorem dX11_ferry_63 : decode cX11_ferry 63 = .ok (.getfield 277, 3) := by decide +kernel
theorem dX11_ferry_66 : decode cX11_ferry 66 = .ok (.ireturn, 1) := by decide +kernel
theorem dX11_ferry_67 : decode cX11_ferry 67 = .ok (.aload_n 0, 1) := by decide +kernel
theorem dX11_ferry_68 : decode cX11_ferry 68 = .ok (.getfield 19, 3) := by decide +kernel
theorem dX11_ferry_71 : decode cX11_ferry 71 = .ok (.getfield 95, 3) := by decide +kernel
theorem dX11_ferry_74 : decode cX11_ferry 74 = .ok (.aload_n 0, 1) := by decide +kernel
theorem dX11_ferry_75 : decode cX11_ferry 75 = .ok (.getfield 82, 3) := by decide +kernel
theorem dX11_ferry_78 : decode cX11_ferry 78 = .ok (.invokevirtual 228, 3) := by decide +kernel
theorem dX11_ferry_81 : decode cX11_ferry 81 = .ok (.ireturn, 1) := by decide +kernel
theorem dX11_ferry_82 : decode cX11_ferry 82 = .ok (.aload_n 0, 1) := by decide +kernel
theorem dX11_ferry_83 : decode cX11_ferry 83 = .ok (.getfield 76, 3) := by decide +kernel
theorem dX11_ferry_86 : decode cX11_ferry 86 = .ok (.ireturn, 1) := by decide +kernel
theorem dX11_ferry_87 : decode cX11_ferry 87 = .ok (.aload_n 0, 1) := by decide +kernel
theorem dX11_ferry_88 : decode cX11_ferry 88 = .ok (.getfield 19, 3) := by decide +kernel
theorem dX11_ferry_91 : decode cX11_ferry 91 = .ok (.getfield 95, 3) := by decide +kernel
theorem dX11_ferry_94 : decode cX11_ferry 94 = .ok (.getfield 99, 3) := by decide +kernel
theorem dX11_ferry_97 : decode cX11_ferry 97 = .ok (.ireturn, 1) := by decide +kernel
theorem dX11_ferry_98 : decode cX11_ferry 98 = .ok (.new 270, 3) := by decide +kernel
theorem dX11_ferry_101 : decode cX11_ferry 101 = .ok (.dup, 1) := by decide +kernel
theorem dX11_ferry_102 : decode cX11_ferry 102 = .ok (.ldc_w 280, 3) := by decide +kernel
theorem dX11_ferry_105 : decode cX11_ferry 105 = .ok (.invokespecial 274, 3) := by decide +kernel
theorem dX11_ferry_108 : decode cX11_ferry 108 = .ok (.athrow, 1) := by decide +kernel
