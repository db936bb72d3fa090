set_option maxHeartbeats 4000000 in
set_option maxRecDepth 100000 in
/-- deck on new objects -/
theorem law_deck {p : Program} {l : Launch} {e : Env} {s : State} {m : MethodId} {below : List Frame} {meth : Method} {c : Code} {b : Nat} {xs : Nat → Int32} {D : va_G} {cy : Nat → ClassId} {tS sa sb : Nat} {A : Nat → Prop} (C1 : lw_Al p l s m meth c b xs D cy tS sa sb A) {xh : Nat} {xq : Nat → Nat} {mh : Nat} {mq : Nat → Nat} {oa : Nat} {H : Heap} {locs : List Loc} {ls : Array Slot} (hP : va_P D vwCl [(xc0 cy xh xq), (xc24 cy xh xq), (xc25 cy xh xq), (xc26 cy xh xq), (xc28 cy xh xq), (xc30 cy xh xq), (xc32 cy xh xq), (mc0 cy mh mq), (mc11 cy mh mq)] H) (hD : va_D A [(xc0 cy xh xq), (xc24 cy xh xq), (xc25 cy xh xq), (xc26 cy xh xq), (xc28 cy xh xq), (xc30 cy xh xq), (xc32 cy xh xq), (mc0 cy mh mq), (mc11 cy mh mq)]) (hS : va_S A s.heap H locs) (hl : lv_has ls 7 [(4, .int 0), (3, .ref oa), (2, .ref mh), (1, .ref xh), (0, .ref b)]) : W p l e room_1 s m #[Value.ref b] below meth c H locs 79 34218 (lw_Z below #[Value.ref b] s) (F0 m 900 ls []) := by
  obtain ⟨hx, hb, hr, hml, hown, hts, hX, hbl, hlocks, hbA, hA, hA2, hKX, hSF, hET, hl0⟩ := id C1
  refine lv_aload_n hx hb dL_law_900 rfl (lv_at hl 3 rfl) ?_
  refine lv_aload_n hx hb dL_law_901 rfl (lv_at hl 4 rfl) ?_
  refine lv_iload hx hb dL_law_902 (lv_at hl 0 rfl) ?_
  refine lv_iconst (v := 1) hx hb dL_law_904 (by decide) ?_
  refine lv_iadd hx hb dL_law_905 ?_
  refine lv_cst 1 (by decide) ?_
  refine va_sld hx hb hX hbl hbA hS (vind (by decide)) dL_law_906 ?_
  refine lv_cst (xs 1) rfl ?_
  refine lv_aload_n hx hb dL_law_907 rfl (lv_at hl 4 rfl) ?_
  refine lv_iload hx hb dL_law_908 (lv_at hl 0 rfl) ?_
  refine lv_iconst (v := 2) hx hb dL_law_910 (by decide) ?_
  refine lv_iadd hx hb dL_law_911 ?_
  refine lv_cst 2 (by decide) ?_
  refine va_sld hx hb hX hbl hbA hS (vind (by decide)) dL_law_912 ?_
  refine lv_cst (xs 2) rfl ?_
  refine cl_i (wr := [(mc0 cy mh mq), (mc11 cy mh mq)]) (va_runV (As := [.int (xs 1), .int (xs 2)]) (rest := []) ⟨hx, hb, hml, hown, hts⟩ (c_deck l D cy xh xq (xs 1) (xs 2) _) (cwV 2 hts gL_law_X11_deck rfl rfl rfl (by decide +kernel) ⟨(Nat.le_of_ble_eq_true rfl), (Nat.le_of_ble_eq_true rfl)⟩) (pre_V hKX hP hD (ci := 11) (q0 := 0) rfl rfl [0, 1, 2, 3, 4, 5, 6] rfl (by decide) rfl) rfl rfl hl.1 rfl (lv_room (Nat.le_of_ble_eq_true rfl)) dL_law_913 ⟨(Nat.le_of_ble_eq_true rfl), (Nat.le_of_ble_eq_true rfl)⟩) hP hD hS hA [0, 1, 2, 3, 4, 5, 6] [7, 8] rfl rfl (by decide) (by decide) (fun u1 H locs _ hP hD hS => ?_)
  have hP : va_P D vwCl [(mc0 cy mh mq), (mc11 cy mh mq)] H := hP
  have hD : va_D A [(mc0 cy mh mq), (mc11 cy mh mq)] := hD
  refine lv_aload_n hx hb dL_law_916 rfl (lv_at hl 2 rfl) ?_
  refine lv_aload_n hx hb dL_law_917 rfl (lv_at hl 4 rfl) ?_
  refine lv_iload hx hb dL_law_918 (lv_at hl 0 rfl) ?_
  refine lv_iconst (v := 1) hx hb dL_law_920 (by decide) ?_
  refine lv_iadd hx hb dL_law_921 ?_
  refine lv_cst 1 (by decide) ?_
  refine va_sld hx hb hX hbl hbA hS (vind (by decide)) dL_law_922 ?_
  refine lv_cst (xs 1) rfl ?_
  refine lv_aload_n hx hb dL_law_923 rfl (lv_at hl 4 rfl) ?_
  refine lv_iload hx hb dL_law_924 (lv_at hl 0 rfl) ?_
  refine lv_iconst (v := 2) hx hb dL_law_926 (by decide) ?_
  refine lv_iadd hx hb dL_law_927 ?_
  refine lv_cst 2 (by decide) ?_
  refine va_sld hx hb hX hbl hbA hS (vind (by decide)) dL_law_928 ?_
  refine lv_cst (xs 2) rfl ?_
  refine cl_i (wr := []) (va_runV (As := [.int (xs 1), .int (xs 2)]) (rest := [.int (-1)]) ⟨hx, hb, hml, hown, hts⟩ (m_deck l D cy mh mq (xs 1) (xs 2) _) (cwV 2 hts gL_law_X12_deck rfl rfl rfl (by decide +kernel) ⟨(Nat.le_of_ble_eq_true rfl), (Nat.le_of_ble_eq_true rfl)⟩) (pre_V hKX hP hD (ci := 12) (q0 := 0) rfl rfl [0, 1] rfl (by decide) rfl) rfl rfl hl.1 rfl (lv_room (Nat.le_of_ble_eq_true rfl)) dL_law_929 ⟨(Nat.le_of_ble_eq_true rfl), (Nat.le_of_ble_eq_true rfl)⟩) hP hD hS hA [0, 1] [] rfl rfl (by decide) (by decide) (fun u2 H locs _ hP hD hS => ?_)
  have hP : va_P D vwCl [] H := hP
  have hD : va_D A [] := hD
  refine lv_icmp_eq (tgt := 1049) hx hb dL_law_932 (by decide) (fun _ => ?_) (fun c9 => absurd (by decide) c9)
  exact law_tail C1 (Nat.le_of_ble_eq_true rfl) (Nat.le_of_ble_eq_true rfl) hS (lv_sub hl [0, 4] rfl)
set_option maxHeartbeats 4000000 in
set_option maxRecDepth 100000 in
/-- yard on new objects -/
theorem law_yard {p : Program} {l : Launch} {e : Env} {s : State} {m : MethodId} {below : List Frame} {meth : Method} {c : Code} {b : Nat} {xs : Nat → Int32} {D : va_G} {cy : Nat → ClassId} {tS sa sb : Nat} {A : Nat → Prop} (C1 : lw_Al p l s m meth c b xs D cy tS sa sb A) {xh : Nat} {xq : Nat → Nat} {mh : Nat} {mq : Nat → Nat} {oa : Nat} {H : Heap} {locs : List Loc} {ls : Array Slot} (hP : va_P D vwCl [(xc0 cy xh xq), (xc1 cy xh xq), (xc2 cy xh xq), (xc3 cy xh xq), (xc4 cy xh xq), (xc6 cy xh xq), (xc8 cy xh xq), (xc13 cy xh xq), (xc14 cy xh xq), (xc15 cy xh xq), (xc17 cy xh xq), (xc19 cy xh xq), (mc0 cy mh mq), (mc11 cy mh mq)] H) (hD : va_D A [(xc0 cy xh xq), (xc1 cy xh xq), (xc2 cy xh xq), (xc3 cy xh xq), (xc4 cy xh xq), (xc6 cy xh xq), (xc8 cy xh xq), (xc13 cy xh xq), (xc14 cy xh xq), (xc15 cy xh xq), (xc17 cy xh xq), (xc19 cy xh xq), (mc0 cy mh mq), (mc11 cy mh mq)]) (hS : va_S A s.heap H locs) (hl : lv_has ls 7 [(4, .int 0), (3, .ref oa), (2, .ref mh), (1, .ref xh), (0, .ref b)]) : W p l e room_1 s m #[Value.ref b] below meth c H locs 79 34218 (lw_Z below #[Value.ref b] s) (F0 m 937 ls []) := by
  obtain ⟨hx, hb, hr, hml, hown, hts, hX, hbl, hlocks, hbA, hA, hA2, hKX, hSF, hET, hl0⟩ := id C1
  refine lv_aload_n hx hb dL_law_937 rfl (lv_at hl 3 rfl) ?_
  refine lv_aload_n hx hb dL_law_938 rfl (lv_at hl 4 rfl) ?_
  refine lv_iload hx hb dL_law_939 (lv_at hl 0 rfl) ?_
  refine lv_iconst (v := 1) hx hb dL_law_941 (by decide) ?_
  refine lv_iadd hx hb dL_law_942 ?_
  refine lv_cst 1 (by decide) ?_
  refine va_sld hx hb hX hbl hbA hS (vind (by decide)) dL_law_943 ?_
  refine lv_cst (xs 1) rfl ?_
  refine lv_aload_n hx hb dL_law_944 rfl (lv_at hl 4 rfl) ?_
  refine lv_iload hx hb dL_law_945 (lv_at hl 0 rfl) ?_
  refine lv_iconst (v := 2) hx hb dL_law_947 (by decide) ?_
  refine lv_iadd hx hb dL_law_948 ?_
  refine lv_cst 2 (by decide) ?_
  refine va_sld hx hb hX hbl hbA hS (vind (by decide)) dL_law_949 ?_
  refine lv_cst (xs 2) rfl ?_
  refine lv_aload_n hx hb dL_law_950 rfl (lv_at hl 4 rfl) ?_
  refine lv_iload hx hb dL_law_951 (lv_at hl 0 rfl) ?_
  refine lv_iconst (v := 3) hx hb dL_law_953 (by decide) ?_
  refine lv_iadd hx hb dL_law_954 ?_
  refine lv_cst 3 (by decide) ?_
  refine va_sld hx hb hX hbl hbA hS (vind (by decide)) dL_law_955 ?_
  refine lv_cst (xs 3) rfl ?_
  refine cl_i (wr := [(mc0 cy mh mq), (mc11 cy mh mq)]) (va_runV (As := [.int (xs 1), .int (xs 2), .int (xs 3)]) (rest := []) ⟨hx, hb, hml, hown, hts⟩ (c_yard l D cy xh xq (xs 1) (xs 2) (xs 3) _) (cwV 3 hts gL_law_X11_yard rfl rfl rfl (by decide +kernel) ⟨(Nat.le_of_ble_eq_true rfl), (Nat.le_of_ble_eq_true rfl)⟩) (pre_V hKX hP hD (ci := 11) (q0 := 0) rfl rfl [0, 1, 2, 3, 4, 5, 6, 7, 8, 9, 10, 11] rfl (by decide) rfl) rfl rfl hl.1 rfl (lv_room (Nat.le_of_ble_eq_true rfl)) dL_law_956 ⟨(Nat.le_of_ble_eq_true rfl), (Nat.le_of_ble_eq_true rfl)⟩) hP hD hS hA [0, 1, 2, 3, 4, 5, 6, 7, 8, 9, 10, 11] [12, 13] rfl rfl (by decide) (by decide) (fun u1 H locs _ hP hD hS => ?_)
  have hP : va_P D vwCl [(mc0 cy mh mq), (mc11 cy mh mq)] H := hP
  have hD : va_D A [(mc0 cy mh mq), (mc11 cy mh mq)] := hD
  refine lv_aload_n hx hb dL_law_959 rfl (lv_at hl 2 rfl) ?_
  refine lv_aload_n hx hb dL_law_960 rfl (lv_at hl 4 rfl) ?_
  refine lv_iload hx hb dL_law_961 (lv_at hl 0 rfl) ?_
  refine lv_iconst (v := 1) hx hb dL_law_963 (by decide) ?_
  refine lv_iadd hx hb dL_law_964 ?_
  refine lv_cst 1 (by decide) ?_
  refine va_sld hx hb hX hbl hbA hS (vind (by decide)) dL_law_965 ?_
  refine lv_cst (xs 1) rfl ?_
  refine lv_aload_n hx hb dL_law_966 rfl (lv_at hl 4 rfl) ?_
  refine lv_iload hx hb dL_law_967 (lv_at hl 0 rfl) ?_
  refine lv_iconst (v := 2) hx hb dL_law_969 (by decide) ?_
  refine lv_iadd hx hb dL_law_970 ?_
  refine lv_cst 2 (by decide) ?_
  refine va_sld hx hb hX hbl hbA hS (vind (by decide)) dL_law_971 ?_
  refine lv_cst (xs 2) rfl ?_
  refine lv_aload_n hx hb dL_law_972 rfl (lv_at hl 4 rfl) ?_
  refine lv_iload hx hb dL_law_973 (lv_at hl 0 rfl) ?_
  refine lv_iconst (v := 3) hx hb dL_law_975 (by decide) ?_
  refine lv_iadd hx hb dL_law_976 ?_
  refine lv_cst 3 (by decide) ?_
  refine va_sld hx hb hX hbl hbA hS (vind (by decide)) dL_law_977 ?_
  refine lv_cst (xs 3) rfl ?_
  refine cl_i (wr := []) (va_runV (As := [.int (xs 1), .int (xs 2), .int (xs 3)]) (rest := [.int (-1)]) ⟨hx, hb, hml, hown, hts⟩ (m_yard l D cy mh mq (xs 1) (xs 2) (xs 3) _) (cwV 3 hts gL_law_X12_yard rfl rfl rfl (by decide +kernel) ⟨(Nat.le_of_ble_eq_true rfl), (Nat.le_of_ble_eq_true rfl)⟩) (pre_V hKX hP hD (ci := 12) (q0 := 0) rfl rfl [0, 1] rfl (by decide) rfl) rfl rfl hl.1 rfl (lv_room (Nat.le_of_ble_eq_true rfl)) dL_law_978 ⟨(Nat.le_of_ble_eq_true rfl), (Nat.le_of_ble_eq_true rfl)⟩) hP hD hS hA [0, 1] [] rfl rfl (by decide) (by decide) (fun u2 H locs _ hP hD hS => ?_)
  have hP : va_P D vwCl [] H := hP
  have hD : va_D A [] := hD
  refine lv_icmp_eq (tgt := 1049) hx hb dL_law_981 (by decide) (fun _ => ?_) (fun c9 => absurd (by decide) c9)
  exact law_tail C1 (Nat.le_of_ble_eq_true rfl) (Nat.le_of_ble_eq_true rfl) hS (lv_sub hl [0, 4] rfl)
set_option maxHeartbeats 4000000 in
set_option maxRecDepth 100000 in
/-- of on new objects -/
theorem law_of {p : Program} {l : Launch} {e : Env} {s : State} {m : MethodId} {below : List Frame} {meth : Method} {c : Code} {b : Nat} {xs : Nat → Int32} {D : va_G} {cy : Nat → ClassId} {tS sa sb : Nat} {A : Nat → Prop} (C1 : lw_Al p l s m meth c b xs D cy tS sa sb A) {xh : Nat} {xq : Nat → Nat} {mh : Nat} {mq : Nat → Nat} {oa : Nat} {H : Heap} {locs : List Loc} {ls : Array Slot} (hP : va_P D vwCl [(xc0 cy xh xq), (mc0 cy mh mq)] H) (hD : va_D A [(xc0 cy xh xq), (mc0 cy mh mq)]) (hS : va_S A s.heap H locs) (hl : lv_has ls 7 [(4, .int 0), (3, .ref oa), (2, .ref mh), (1, .ref xh), (0, .ref b)]) : W p l e room_1 s m #[Value.ref b] below meth c H locs 79 34218 (lw_Z below #[Value.ref b] s) (F0 m 986 ls []) := by
  obtain ⟨hx, hb, hr, hml, hown, hts, hX, hbl, hlocks, hbA, hA, hA2, hKX, hSF, hET, hl0⟩ := id C1
  refine lv_aload_n hx hb dL_law_986 rfl (lv_at hl 3 rfl) ?_
  refine lv_aload_n hx hb dL_law_987 rfl (lv_at hl 4 rfl) ?_
  refine lv_iload hx hb dL_law_988 (lv_at hl 0 rfl) ?_
  refine lv_iconst (v := 1) hx hb dL_law_990 (by decide) ?_
  refine lv_iadd hx hb dL_law_991 ?_
  refine lv_cst 1 (by decide) ?_
  refine va_sld hx hb hX hbl hbA hS (vind (by decide)) dL_law_992 ?_
  refine lv_cst (xs 1) rfl ?_
  refine lv_aload_n hx hb dL_law_993 rfl (lv_at hl 4 rfl) ?_
  refine lv_iload hx hb dL_law_994 (lv_at hl 0 rfl) ?_
  refine lv_iconst (v := 2) hx hb dL_law_996 (by decide) ?_
  refine lv_iadd hx hb dL_law_997 ?_
  refine lv_cst 2 (by decide) ?_
  refine va_sld hx hb hX hbl hbA hS (vind (by decide)) dL_law_998 ?_
  refine lv_cst (xs 2) rfl ?_
  refine cl_i (wr := [(mc0 cy mh mq)]) (va_runV (As := [.int (xs 1), .int (xs 2)]) (rest := []) ⟨hx, hb, hml, hown, hts⟩ (c_of l D cy xh xq (xs 1) (xs 2) _) (cwV 2 hts gL_law_X11_of rfl rfl rfl (by decide +kernel) ⟨(Nat.le_of_ble_eq_true rfl), (Nat.le_of_ble_eq_true rfl)⟩) (pre_V hKX hP hD (ci := 11) (q0 := 0) rfl rfl [0] rfl (by decide) rfl) rfl rfl hl.1 rfl (lv_room (Nat.le_of_ble_eq_true rfl)) dL_law_999 ⟨(Nat.le_of_ble_eq_true rfl), (Nat.le_of_ble_eq_true rfl)⟩) hP hD hS hA [0] [1] rfl rfl (by decide) (by decide) (fun u1 H locs _ hP hD hS => ?_)
  have hP : va_P D vwCl [(mc0 cy mh mq)] H := hP
  have hD : va_D A [(mc0 cy mh mq)] := hD
  refine lv_aload_n hx hb dL_law_1002 rfl (lv_at hl 2 rfl) ?_
  refine lv_aload_n hx hb dL_law_1003 rfl (lv_at hl 4 rfl) ?_
  refine lv_iload hx hb dL_law_1004 (lv_at hl 0 rfl) ?_
  refine lv_iconst (v := 1) hx hb dL_law_1006 (by decide) ?_
  refine lv_iadd hx hb dL_law_1007 ?_
  refine lv_cst 1 (by decide) ?_
  refine va_sld hx hb hX hbl hbA hS (vind (by decide)) dL_law_1008 ?_
  refine lv_cst (xs 1) rfl ?_
  refine lv_aload_n hx hb dL_law_1009 rfl (lv_at hl 4 rfl) ?_
  refine lv_iload hx hb dL_law_1010 (lv_at hl 0 rfl) ?_
  refine lv_iconst (v := 2) hx hb dL_law_1012 (by decide) ?_
  refine lv_iadd hx hb dL_law_1013 ?_
  refine lv_cst 2 (by decide) ?_
  refine va_sld hx hb hX hbl hbA hS (vind (by decide)) dL_law_1014 ?_
  refine lv_cst (xs 2) rfl ?_
  refine cl_i (wr := []) (va_runV (As := [.int (xs 1), .int (xs 2)]) (rest := [.int (-1)]) ⟨hx, hb, hml, hown, hts⟩ (m_of l D cy mh mq (xs 1) (xs 2) _) (cwV 2 hts gL_law_X12_of rfl rfl rfl (by decide +kernel) ⟨(Nat.le_of_ble_eq_true rfl), (Nat.le_of_ble_eq_true rfl)⟩) (pre_V hKX hP hD (ci := 12) (q0 := 0) rfl rfl [0] rfl (by decide) rfl) rfl rfl hl.1 rfl (lv_room (Nat.le_of_ble_eq_true rfl)) dL_law_1015 ⟨(Nat.le_of_ble_eq_true rfl), (Nat.le_of_ble_eq_true rfl)⟩) hP hD hS hA [0] [] rfl rfl (by decide) (by decide) (fun u2 H locs _ hP hD hS => ?_)
  have hP : va_P D vwCl [] H := hP
  have hD : va_D A [] := hD
  refine lv_icmp_eq (tgt := 1049) hx hb dL_law_1018 (by decide) (fun _ => ?_) (fun c9 => absurd (by decide) c9)
  exact law_tail C1 (Nat.le_of_ble_eq_true rfl) (Nat.le_of_ble_eq_true rfl) hS (lv_sub hl [0, 4] rfl)
set_option maxHeartbeats 4000000 in
set_option maxRecDepth 100000 in
/-- count on new objects -/
theorem law_count {p : Program} {l : Launch} {e : Env} {s : State} {m : MethodId} {below : List Frame} {meth : Method} {c : Code} {b : Nat} {xs : Nat → Int32} {D : va_G} {cy : Nat → ClassId} {tS sa sb : Nat} {A : Nat → Prop} (C1 : lw_Al p l s m meth c b xs D cy tS sa sb A) {xh : Nat} {xq : Nat → Nat} {mh : Nat} {mq : Nat → Nat} {oa : Nat} {H : Heap} {locs : List Loc} {ls : Array Slot} (hP : va_P D vwCl [(xc0 cy xh xq), (xc40 cy xh xq), (xc41 cy xh xq), (xc44 cy xh xq), (mc0 cy mh mq)] H) (hD : va_D A [(xc0 cy xh xq), (xc40 cy xh xq), (xc41 cy xh xq), (xc44 cy xh xq), (mc0 cy mh mq)]) (hS : va_S A s.heap H locs) (hl : lv_has ls 7 [(4, .int 0), (3, .ref oa), (2, .ref mh), (1, .ref xh), (0, .ref b)]) : W p l e room_1 s m #[Value.ref b] below meth c H locs 79 34218 (lw_Z below #[Value.ref b] s) (F0 m 1023 ls []) := by
  obtain ⟨hx, hb, hr, hml, hown, hts, hX, hbl, hlocks, hbA, hA, hA2, hKX, hSF, hET, hl0⟩ := id C1
  refine lv_aload_n hx hb dL_law_1023 rfl (lv_at hl 3 rfl) ?_
  refine lv_aload_n hx hb dL_law_1024 rfl (lv_at hl 4 rfl) ?_
  refine lv_iload hx hb dL_law_1025 (lv_at hl 0 rfl) ?_
  refine lv_iconst (v := 1) hx hb dL_law_1027 (by decide) ?_
  refine lv_iadd hx hb dL_law_1028 ?_
  refine lv_cst 1 (by decide) ?_
  refine va_sld hx hb hX hbl hbA hS (vind (by decide)) dL_law_1029 ?_
  refine lv_cst (xs 1) rfl ?_
  refine cl_l (wr := [(mc0 cy mh mq)]) (va_runV (As := [.int (xs 1)]) (rest := []) ⟨hx, hb, hml, hown, hts⟩ (c_count l D cy xh xq (xs 1) _) (cwV 1 hts gL_law_X11_count rfl rfl rfl (by decide +kernel) ⟨(Nat.le_of_ble_eq_true rfl), (Nat.le_of_ble_eq_true rfl)⟩) (pre_V hKX hP hD (ci := 11) (q0 := 0) rfl rfl [0, 1, 2, 3] rfl (by decide) rfl) rfl rfl hl.1 rfl (lv_room (Nat.le_of_ble_eq_true rfl)) dL_law_1030 ⟨(Nat.le_of_ble_eq_true rfl), (Nat.le_of_ble_eq_true rfl)⟩) hP hD hS hA [0, 1, 2, 3] [4] rfl rfl (by decide) (by decide) (fun u1 H locs _ hP hD hS => ?_)
  have hP : va_P D vwCl [(mc0 cy mh mq)] H := hP
  have hD : va_D A [(mc0 cy mh mq)] := hD
  refine lv_aload_n hx hb dL_law_1033 rfl (lv_at hl 2 rfl) ?_
  refine lv_aload_n hx hb dL_law_1034 rfl (lv_at hl 4 rfl) ?_
  refine lv_iload hx hb dL_law_1035 (lv_at hl 0 rfl) ?_
  refine lv_iconst (v := 1) hx hb dL_law_1037 (by decide) ?_
  refine lv_iadd hx hb dL_law_1038 ?_
  refine lv_cst 1 (by decide) ?_
  refine va_sld hx hb hX hbl hbA hS (vind (by decide)) dL_law_1039 ?_
  refine lv_cst (xs 1) rfl ?_
  refine cl_l (wr := []) (va_runV (As := [.int (xs 1)]) (rest := [.long (fCount (xs 1))]) ⟨hx, hb, hml, hown, hts⟩ (m_count l D cy mh mq (xs 1) _) (cwV 1 hts gL_law_X12_count rfl rfl rfl (by decide +kernel) ⟨(Nat.le_of_ble_eq_true rfl), (Nat.le_of_ble_eq_true rfl)⟩) (pre_V hKX hP hD (ci := 12) (q0 := 0) rfl rfl [0] rfl (by decide) rfl) rfl rfl hl.1 rfl (lv_room (Nat.le_of_ble_eq_true rfl)) dL_law_1040 ⟨(Nat.le_of_ble_eq_true rfl), (Nat.le_of_ble_eq_true rfl)⟩) hP hD hS hA [0] [] rfl rfl (by decide) (by decide) (fun u2 H locs _ hP hD hS => ?_)
  have hP : va_P D vwCl [] H := hP
  have hD : va_D A [] := hD
  refine W.lcmp hx hb dL_law_1043 ?_
  refine lv_cst 0 (lcmp_self _) ?_
  refine lv_if_eq (tgt := 1049) hx hb dL_law_1044 (by decide) (fun _ => ?_) (fun c9 => absurd (by decide) c9)
  exact law_tail C1 (Nat.le_of_ble_eq_true rfl) (Nat.le_of_ble_eq_true rfl) hS (lv_sub hl [0, 4] rfl)
