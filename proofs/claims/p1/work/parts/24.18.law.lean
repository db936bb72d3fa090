set_option maxHeartbeats 4000000 in
set_option maxRecDepth 100000 in
/-- loading on new objects -/
theorem law_loading {p : Program} {l : Launch} {e : Env} {s : State} {m : MethodId} {below : List Frame} {meth : Method} {c : Code} {b : Nat} {xs : Nat → Int32} {D : va_G} {cy : Nat → ClassId} {tS sa sb : Nat} {A : Nat → Prop} (C1 : lw_Al p l s m meth c b xs D cy tS sa sb A) {xh : Nat} {xq : Nat → Nat} {mh : Nat} {mq : Nat → Nat} {oa : Nat} {H : Heap} {locs : List Loc} {ls : Array Slot} (hP : va_P D vwCl [(xc0 cy xh xq), (xc1 cy xh xq), (xc2 cy xh xq), (xc3 cy xh xq), (xc4 cy xh xq), (xc6 cy xh xq), (xc8 cy xh xq), (xc24 cy xh xq), (xc34 cy xh xq), (xc35 cy xh xq), (xc36 cy xh xq), (xc37 cy xh xq), (xc38 cy xh xq), (mc0 cy mh mq), (mc11 cy mh mq), (mc20 cy mh mq), (mc21 cy mh mq)] H) (hD : va_D A [(xc0 cy xh xq), (xc1 cy xh xq), (xc2 cy xh xq), (xc3 cy xh xq), (xc4 cy xh xq), (xc6 cy xh xq), (xc8 cy xh xq), (xc24 cy xh xq), (xc34 cy xh xq), (xc35 cy xh xq), (xc36 cy xh xq), (xc37 cy xh xq), (xc38 cy xh xq), (mc0 cy mh mq), (mc11 cy mh mq), (mc20 cy mh mq), (mc21 cy mh mq)]) (hS : va_S A s.heap H locs) (hl : lv_has ls 7 [(4, .int 0), (3, .ref oa), (2, .ref mh), (1, .ref xh), (0, .ref b)]) : W p l e room_1 s m #[Value.ref b] below meth c H locs 79 34218 (lw_Z below #[Value.ref b] s) (F0 m 657 ls []) := by
  obtain ⟨hx, hb, hr, hml, hown, hts, hX, hbl, hlocks, hbA, hA, hA2, hKX, hSF, hET, hl0⟩ := id C1
  refine lv_aload_n hx hb dL_law_657 rfl (lv_at hl 3 rfl) ?_
  refine lv_aload_n hx hb dL_law_658 rfl (lv_at hl 4 rfl) ?_
  refine lv_iload hx hb dL_law_659 (lv_at hl 0 rfl) ?_
  refine lv_iconst (v := 1) hx hb dL_law_661 (by decide) ?_
  refine lv_iadd hx hb dL_law_662 ?_
  refine lv_cst 1 (by decide) ?_
  refine va_sld hx hb hX hbl hbA hS (vind (by decide)) dL_law_663 ?_
  refine lv_cst (xs 1) rfl ?_
  refine lv_aload_n hx hb dL_law_664 rfl (lv_at hl 4 rfl) ?_
  refine lv_iload hx hb dL_law_665 (lv_at hl 0 rfl) ?_
  refine lv_iconst (v := 2) hx hb dL_law_667 (by decide) ?_
  refine lv_iadd hx hb dL_law_668 ?_
  refine lv_cst 2 (by decide) ?_
  refine va_sld hx hb hX hbl hbA hS (vind (by decide)) dL_law_669 ?_
  refine lv_cst (xs 2) rfl ?_
  refine lv_aload_n hx hb dL_law_670 rfl (lv_at hl 4 rfl) ?_
  refine lv_iload hx hb dL_law_671 (lv_at hl 0 rfl) ?_
  refine lv_iconst (v := 3) hx hb dL_law_673 (by decide) ?_
  refine lv_iadd hx hb dL_law_674 ?_
  refine lv_cst 3 (by decide) ?_
  refine va_sld hx hb hX hbl hbA hS (vind (by decide)) dL_law_675 ?_
  refine lv_cst (xs 3) rfl ?_
  refine cl_i (wr := [(mc0 cy mh mq), (mc11 cy mh mq), (mc20 cy mh mq), (mc21 cy mh mq)]) (va_runV (As := [.int (xs 1), .int (xs 2), .int (xs 3)]) (rest := []) ⟨hx, hb, hml, hown, hts⟩ (c_loading l D cy xh xq (xs 1) (xs 2) (xs 3) _) (cwV 3 hts gL_law_X11_loading rfl rfl rfl (by decide +kernel) ⟨(Nat.le_of_ble_eq_true rfl), (Nat.le_of_ble_eq_true rfl)⟩) (pre_V hKX hP hD (ci := 11) (q0 := 0) rfl rfl [0, 1, 2, 3, 4, 5, 6, 7, 8, 9, 10, 11, 12] rfl (by decide) rfl) rfl rfl hl.1 rfl (lv_room (Nat.le_of_ble_eq_true rfl)) dL_law_676 ⟨(Nat.le_of_ble_eq_true rfl), (Nat.le_of_ble_eq_true rfl)⟩) hP hD hS hA [0, 1, 2, 3, 4, 5, 6, 7, 8, 9, 10, 11, 12] [13, 14, 15, 16] rfl rfl (by decide) (by decide) (fun u1 H locs _ hP hD hS => ?_)
  have hP : va_P D vwCl [(mc0 cy mh mq), (mc11 cy mh mq), (mc20 cy mh mq), (mc21 cy mh mq)] H := hP
  have hD : va_D A [(mc0 cy mh mq), (mc11 cy mh mq), (mc20 cy mh mq), (mc21 cy mh mq)] := hD
  refine lv_aload_n hx hb dL_law_679 rfl (lv_at hl 2 rfl) ?_
  refine lv_aload_n hx hb dL_law_680 rfl (lv_at hl 4 rfl) ?_
  refine lv_iload hx hb dL_law_681 (lv_at hl 0 rfl) ?_
  refine lv_iconst (v := 1) hx hb dL_law_683 (by decide) ?_
  refine lv_iadd hx hb dL_law_684 ?_
  refine lv_cst 1 (by decide) ?_
  refine va_sld hx hb hX hbl hbA hS (vind (by decide)) dL_law_685 ?_
  refine lv_cst (xs 1) rfl ?_
  refine lv_aload_n hx hb dL_law_686 rfl (lv_at hl 4 rfl) ?_
  refine lv_iload hx hb dL_law_687 (lv_at hl 0 rfl) ?_
  refine lv_iconst (v := 2) hx hb dL_law_689 (by decide) ?_
  refine lv_iadd hx hb dL_law_690 ?_
  refine lv_cst 2 (by decide) ?_
  refine va_sld hx hb hX hbl hbA hS (vind (by decide)) dL_law_691 ?_
  refine lv_cst (xs 2) rfl ?_
  refine lv_aload_n hx hb dL_law_692 rfl (lv_at hl 4 rfl) ?_
  refine lv_iload hx hb dL_law_693 (lv_at hl 0 rfl) ?_
  refine lv_iconst (v := 3) hx hb dL_law_695 (by decide) ?_
  refine lv_iadd hx hb dL_law_696 ?_
  refine lv_cst 3 (by decide) ?_
  refine va_sld hx hb hX hbl hbA hS (vind (by decide)) dL_law_697 ?_
  refine lv_cst (xs 3) rfl ?_
  refine cl_i (wr := []) (va_runV (As := [.int (xs 1), .int (xs 2), .int (xs 3)]) (rest := [.int (fLoad (xs 1) (xs 2) (xs 3))]) ⟨hx, hb, hml, hown, hts⟩ (m_loading l D cy mh mq (xs 1) (xs 2) (xs 3) _) (cwV 3 hts gL_law_X12_loading rfl rfl rfl (by decide +kernel) ⟨(Nat.le_of_ble_eq_true rfl), (Nat.le_of_ble_eq_true rfl)⟩) (pre_V hKX hP hD (ci := 12) (q0 := 0) rfl rfl [0, 1, 2, 3] rfl (by decide) rfl) rfl rfl hl.1 rfl (lv_room (Nat.le_of_ble_eq_true rfl)) dL_law_698 ⟨(Nat.le_of_ble_eq_true rfl), (Nat.le_of_ble_eq_true rfl)⟩) hP hD hS hA [0, 1, 2, 3] [] rfl rfl (by decide) (by decide) (fun u2 H locs _ hP hD hS => ?_)
  have hP : va_P D vwCl [] H := hP
  have hD : va_D A [] := hD
  refine lv_icmp_eq (tgt := 1049) hx hb dL_law_701 (by decide) (fun _ => ?_) (fun c9 => absurd rfl c9)
  exact law_tail C1 (Nat.le_of_ble_eq_true rfl) (Nat.le_of_ble_eq_true rfl) hS (lv_sub hl [0, 4] rfl)
set_option maxHeartbeats 4000000 in
set_option maxRecDepth 100000 in
/-- step on new objects -/
theorem law_step {p : Program} {l : Launch} {e : Env} {s : State} {m : MethodId} {below : List Frame} {meth : Method} {c : Code} {b : Nat} {xs : Nat → Int32} {D : va_G} {cy : Nat → ClassId} {tS sa sb : Nat} {A : Nat → Prop} (C1 : lw_Al p l s m meth c b xs D cy tS sa sb A) {xh : Nat} {xq : Nat → Nat} {mh : Nat} {mq : Nat → Nat} {oa : Nat} {H : Heap} {locs : List Loc} {ls : Array Slot} (hP : va_P D vwCl [(xc0 cy xh xq), (mc0 cy mh mq)] H) (hD : va_D A [(xc0 cy xh xq), (mc0 cy mh mq)]) (hS : va_S A s.heap H locs) (hl : lv_has ls 7 [(4, .int 0), (3, .ref oa), (2, .ref mh), (1, .ref xh), (0, .ref b)]) : W p l e room_1 s m #[Value.ref b] below meth c H locs 79 34218 (lw_Z below #[Value.ref b] s) (F0 m 706 ls []) := by
  obtain ⟨hx, hb, hr, hml, hown, hts, hX, hbl, hlocks, hbA, hA, hA2, hKX, hSF, hET, hl0⟩ := id C1
  refine lv_aload_n hx hb dL_law_706 rfl (lv_at hl 3 rfl) ?_
  refine lv_aload_n hx hb dL_law_707 rfl (lv_at hl 4 rfl) ?_
  refine lv_iload hx hb dL_law_708 (lv_at hl 0 rfl) ?_
  refine lv_iconst (v := 1) hx hb dL_law_710 (by decide) ?_
  refine lv_iadd hx hb dL_law_711 ?_
  refine lv_cst 1 (by decide) ?_
  refine va_sld hx hb hX hbl hbA hS (vind (by decide)) dL_law_712 ?_
  refine lv_cst (xs 1) rfl ?_
  refine lv_aload_n hx hb dL_law_713 rfl (lv_at hl 4 rfl) ?_
  refine lv_iload hx hb dL_law_714 (lv_at hl 0 rfl) ?_
  refine lv_iconst (v := 2) hx hb dL_law_716 (by decide) ?_
  refine lv_iadd hx hb dL_law_717 ?_
  refine lv_cst 2 (by decide) ?_
  refine va_sld hx hb hX hbl hbA hS (vind (by decide)) dL_law_718 ?_
  refine lv_cst (xs 2) rfl ?_
  refine cl_i (wr := [(mc0 cy mh mq)]) (va_runV (As := [.int (xs 1), .int (xs 2)]) (rest := []) ⟨hx, hb, hml, hown, hts⟩ (c_step l D cy xh xq (xs 1) (xs 2) _) (cwV 2 hts gL_law_X11_step rfl rfl rfl (by decide +kernel) ⟨(Nat.le_of_ble_eq_true rfl), (Nat.le_of_ble_eq_true rfl)⟩) (pre_V hKX hP hD (ci := 11) (q0 := 0) rfl rfl [0] rfl (by decide) rfl) rfl rfl hl.1 rfl (lv_room (Nat.le_of_ble_eq_true rfl)) dL_law_719 ⟨(Nat.le_of_ble_eq_true rfl), (Nat.le_of_ble_eq_true rfl)⟩) hP hD hS hA [0] [1] rfl rfl (by decide) (by decide) (fun u1 H locs _ hP hD hS => ?_)
  have hP : va_P D vwCl [(mc0 cy mh mq)] H := hP
  have hD : va_D A [(mc0 cy mh mq)] := hD
  refine lv_aload_n hx hb dL_law_722 rfl (lv_at hl 2 rfl) ?_
  refine lv_aload_n hx hb dL_law_723 rfl (lv_at hl 4 rfl) ?_
  refine lv_iload hx hb dL_law_724 (lv_at hl 0 rfl) ?_
  refine lv_iconst (v := 1) hx hb dL_law_726 (by decide) ?_
  refine lv_iadd hx hb dL_law_727 ?_
  refine lv_cst 1 (by decide) ?_
  refine va_sld hx hb hX hbl hbA hS (vind (by decide)) dL_law_728 ?_
  refine lv_cst (xs 1) rfl ?_
  refine lv_aload_n hx hb dL_law_729 rfl (lv_at hl 4 rfl) ?_
  refine lv_iload hx hb dL_law_730 (lv_at hl 0 rfl) ?_
  refine lv_iconst (v := 2) hx hb dL_law_732 (by decide) ?_
  refine lv_iadd hx hb dL_law_733 ?_
  refine lv_cst 2 (by decide) ?_
  refine va_sld hx hb hX hbl hbA hS (vind (by decide)) dL_law_734 ?_
  refine lv_cst (xs 2) rfl ?_
  refine cl_i (wr := []) (va_runV (As := [.int (xs 1), .int (xs 2)]) (rest := [.int (-1)]) ⟨hx, hb, hml, hown, hts⟩ (m_step l D cy mh mq (xs 1) (xs 2) _) (cwV 2 hts gL_law_X12_step rfl rfl rfl (by decide +kernel) ⟨(Nat.le_of_ble_eq_true rfl), (Nat.le_of_ble_eq_true rfl)⟩) (pre_V hKX hP hD (ci := 12) (q0 := 0) rfl rfl [0] rfl (by decide) rfl) rfl rfl hl.1 rfl (lv_room (Nat.le_of_ble_eq_true rfl)) dL_law_735 ⟨(Nat.le_of_ble_eq_true rfl), (Nat.le_of_ble_eq_true rfl)⟩) hP hD hS hA [0] [] rfl rfl (by decide) (by decide) (fun u2 H locs _ hP hD hS => ?_)
  have hP : va_P D vwCl [] H := hP
  have hD : va_D A [] := hD
  refine lv_icmp_eq (tgt := 1049) hx hb dL_law_738 (by decide) (fun _ => ?_) (fun c9 => absurd (by decide) c9)
  exact law_tail C1 (Nat.le_of_ble_eq_true rfl) (Nat.le_of_ble_eq_true rfl) hS (lv_sub hl [0, 4] rfl)
set_option maxHeartbeats 4000000 in
set_option maxRecDepth 100000 in
/-- emptying on new objects -/
theorem law_emptying {p : Program} {l : Launch} {e : Env} {s : State} {m : MethodId} {below : List Frame} {meth : Method} {c : Code} {b : Nat} {xs : Nat → Int32} {D : va_G} {cy : Nat → ClassId} {tS sa sb : Nat} {A : Nat → Prop} (C1 : lw_Al p l s m meth c b xs D cy tS sa sb A) {xh : Nat} {xq : Nat → Nat} {mh : Nat} {mq : Nat → Nat} {oa : Nat} {H : Heap} {locs : List Loc} {ls : Array Slot} (hP : va_P D vwCl [(xc0 cy xh xq), (xc24 cy xh xq), (xc25 cy xh xq), (xc26 cy xh xq), (xc28 cy xh xq), (xc30 cy xh xq), (xc32 cy xh xq), (xc34 cy xh xq), (mc0 cy mh mq), (mc11 cy mh mq), (mc29 cy mh mq), (mc28 cy mh mq)] H) (hD : va_D A [(xc0 cy xh xq), (xc24 cy xh xq), (xc25 cy xh xq), (xc26 cy xh xq), (xc28 cy xh xq), (xc30 cy xh xq), (xc32 cy xh xq), (xc34 cy xh xq), (mc0 cy mh mq), (mc11 cy mh mq), (mc29 cy mh mq), (mc28 cy mh mq)]) (hS : va_S A s.heap H locs) (hl : lv_has ls 7 [(4, .int 0), (3, .ref oa), (2, .ref mh), (1, .ref xh), (0, .ref b)]) : W p l e room_1 s m #[Value.ref b] below meth c H locs 79 34218 (lw_Z below #[Value.ref b] s) (F0 m 743 ls []) := by
  obtain ⟨hx, hb, hr, hml, hown, hts, hX, hbl, hlocks, hbA, hA, hA2, hKX, hSF, hET, hl0⟩ := id C1
  refine lv_aload_n hx hb dL_law_743 rfl (lv_at hl 3 rfl) ?_
  refine cl_i (wr := [(mc0 cy mh mq), (mc11 cy mh mq), (mc29 cy mh mq), (mc28 cy mh mq)]) (va_runV (As := []) (rest := []) ⟨hx, hb, hml, hown, hts⟩ (c_emptying l D cy _ xh xq _) (cwV 0 hts gL_law_X11_emptying rfl rfl rfl (by decide +kernel) ⟨(Nat.le_of_ble_eq_true rfl), (Nat.le_of_ble_eq_true rfl)⟩) (pre_VX hKX hP hD hSF hS hA (ci := 11) (q0 := 0) rfl rfl [0, 1, 2, 3, 4, 5, 6, 7] rfl (by decide) rfl) rfl rfl hl.1 rfl (lv_room (Nat.le_of_ble_eq_true rfl)) dL_law_744 ⟨(Nat.le_of_ble_eq_true rfl), (Nat.le_of_ble_eq_true rfl)⟩) hP hD hS hA [0, 1, 2, 3, 4, 5, 6, 7] [8, 9, 10, 11] rfl rfl (by decide) (by decide) (fun u1 H locs _ hP hD hS => ?_)
  have hP : va_P D vwCl [(mc0 cy mh mq), (mc11 cy mh mq), (mc29 cy mh mq), (mc28 cy mh mq)] H := hP
  have hD : va_D A [(mc0 cy mh mq), (mc11 cy mh mq), (mc29 cy mh mq), (mc28 cy mh mq)] := hD
  refine lv_aload_n hx hb dL_law_747 rfl (lv_at hl 2 rfl) ?_
  refine cl_i (wr := []) (va_runV (As := []) (rest := [.int 0]) ⟨hx, hb, hml, hown, hts⟩ (m_emptying l D cy mh mq _) (cwV 0 hts gL_law_X12_emptying rfl rfl rfl (by decide +kernel) ⟨(Nat.le_of_ble_eq_true rfl), (Nat.le_of_ble_eq_true rfl)⟩) (pre_V hKX hP hD (ci := 12) (q0 := 0) rfl rfl [0, 1, 2, 3] rfl (by decide) rfl) rfl rfl hl.1 rfl (lv_room (Nat.le_of_ble_eq_true rfl)) dL_law_748 ⟨(Nat.le_of_ble_eq_true rfl), (Nat.le_of_ble_eq_true rfl)⟩) hP hD hS hA [0, 1, 2, 3] [] rfl rfl (by decide) (by decide) (fun u2 H locs _ hP hD hS => ?_)
  have hP : va_P D vwCl [] H := hP
  have hD : va_D A [] := hD
  refine lv_icmp_eq (tgt := 1049) hx hb dL_law_751 (by decide) (fun _ => ?_) (fun c9 => absurd (by decide) c9)
  exact law_tail C1 (Nat.le_of_ble_eq_true rfl) (Nat.le_of_ble_eq_true rfl) hS (lv_sub hl [0, 4] rfl)
set_option maxHeartbeats 4000000 in
set_option maxRecDepth 100000 in
/-- emptied on new objects -/
theorem law_emptied {p : Program} {l : Launch} {e : Env} {s : State} {m : MethodId} {below : List Frame} {meth : Method} {c : Code} {b : Nat} {xs : Nat → Int32} {D : va_G} {cy : Nat → ClassId} {tS sa sb : Nat} {A : Nat → Prop} (C1 : lw_Al p l s m meth c b xs D cy tS sa sb A) {xh : Nat} {xq : Nat → Nat} {mh : Nat} {mq : Nat → Nat} {oa : Nat} {H : Heap} {locs : List Loc} {ls : Array Slot} (hP : va_P D vwCl [(xc0 cy xh xq), (xc24 cy xh xq), (xc25 cy xh xq), (xc26 cy xh xq), (xc28 cy xh xq), (xc30 cy xh xq), (xc32 cy xh xq), (xc34 cy xh xq), (mc0 cy mh mq), (mc11 cy mh mq)] H) (hD : va_D A [(xc0 cy xh xq), (xc24 cy xh xq), (xc25 cy xh xq), (xc26 cy xh xq), (xc28 cy xh xq), (xc30 cy xh xq), (xc32 cy xh xq), (xc34 cy xh xq), (mc0 cy mh mq), (mc11 cy mh mq)]) (hS : va_S A s.heap H locs) (hl : lv_has ls 7 [(4, .int 0), (3, .ref oa), (2, .ref mh), (1, .ref xh), (0, .ref b)]) : W p l e room_1 s m #[Value.ref b] below meth c H locs 79 34218 (lw_Z below #[Value.ref b] s) (F0 m 756 ls []) := by
  obtain ⟨hx, hb, hr, hml, hown, hts, hX, hbl, hlocks, hbA, hA, hA2, hKX, hSF, hET, hl0⟩ := id C1
  refine lv_aload_n hx hb dL_law_756 rfl (lv_at hl 3 rfl) ?_
  refine lv_aload_n hx hb dL_law_757 rfl (lv_at hl 4 rfl) ?_
  refine lv_iload hx hb dL_law_758 (lv_at hl 0 rfl) ?_
  refine lv_iconst (v := 1) hx hb dL_law_760 (by decide) ?_
  refine lv_iadd hx hb dL_law_761 ?_
  refine lv_cst 1 (by decide) ?_
  refine va_sld hx hb hX hbl hbA hS (vind (by decide)) dL_law_762 ?_
  refine lv_cst (xs 1) rfl ?_
  refine cl_i (wr := [(mc0 cy mh mq), (mc11 cy mh mq)]) (va_runV (As := [.int (xs 1)]) (rest := []) ⟨hx, hb, hml, hown, hts⟩ (c_emptied l D cy _ xh xq (xs 1) _) (cwV 1 hts gL_law_X11_emptied rfl rfl rfl (by decide +kernel) ⟨(Nat.le_of_ble_eq_true rfl), (Nat.le_of_ble_eq_true rfl)⟩) (pre_VX hKX hP hD hSF hS hA (ci := 11) (q0 := 0) rfl rfl [0, 1, 2, 3, 4, 5, 6, 7] rfl (by decide) rfl) rfl rfl hl.1 rfl (lv_room (Nat.le_of_ble_eq_true rfl)) dL_law_763 ⟨(Nat.le_of_ble_eq_true rfl), (Nat.le_of_ble_eq_true rfl)⟩) hP hD hS hA [0, 1, 2, 3, 4, 5, 6, 7] [8, 9] rfl rfl (by decide) (by decide) (fun u1 H locs _ hP hD hS => ?_)
  have hP : va_P D vwCl [(mc0 cy mh mq), (mc11 cy mh mq)] H := hP
  have hD : va_D A [(mc0 cy mh mq), (mc11 cy mh mq)] := hD
  refine lv_aload_n hx hb dL_law_766 rfl (lv_at hl 2 rfl) ?_
  refine lv_aload_n hx hb dL_law_767 rfl (lv_at hl 4 rfl) ?_
  refine lv_iload hx hb dL_law_768 (lv_at hl 0 rfl) ?_
  refine lv_iconst (v := 1) hx hb dL_law_770 (by decide) ?_
  refine lv_iadd hx hb dL_law_771 ?_
  refine lv_cst 1 (by decide) ?_
  refine va_sld hx hb hX hbl hbA hS (vind (by decide)) dL_law_772 ?_
  refine lv_cst (xs 1) rfl ?_
  refine cl_i (wr := []) (va_runV (As := [.int (xs 1)]) (rest := [.int (-1)]) ⟨hx, hb, hml, hown, hts⟩ (m_emptied l D cy mh mq (xs 1) _) (cwV 1 hts gL_law_X12_emptied rfl rfl rfl (by decide +kernel) ⟨(Nat.le_of_ble_eq_true rfl), (Nat.le_of_ble_eq_true rfl)⟩) (pre_V hKX hP hD (ci := 12) (q0 := 0) rfl rfl [0, 1] rfl (by decide) rfl) rfl rfl hl.1 rfl (lv_room (Nat.le_of_ble_eq_true rfl)) dL_law_773 ⟨(Nat.le_of_ble_eq_true rfl), (Nat.le_of_ble_eq_true rfl)⟩) hP hD hS hA [0, 1] [] rfl rfl (by decide) (by decide) (fun u2 H locs _ hP hD hS => ?_)
  have hP : va_P D vwCl [] H := hP
  have hD : va_D A [] := hD
  refine lv_icmp_eq (tgt := 1049) hx hb dL_law_776 (by decide) (fun _ => ?_) (fun c9 => absurd (by decide) c9)
  exact law_tail C1 (Nat.le_of_ble_eq_true rfl) (Nat.le_of_ble_eq_true rfl) hS (lv_sub hl [0, 4] rfl)
set_option maxHeartbeats 4000000 in
set_option maxRecDepth 100000 in
/-- isOpen on new objects -/
theorem law_isOpen {p : Program} {l : Launch} {e : Env} {s : State} {m : MethodId} {below : List Frame} {meth : Method} {c : Code} {b : Nat} {xs : Nat → Int32} {D : va_G} {cy : Nat → ClassId} {tS sa sb : Nat} {A : Nat → Prop} (C1 : lw_Al p l s m meth c b xs D cy tS sa sb A) {xh : Nat} {xq : Nat → Nat} {mh : Nat} {mq : Nat → Nat} {oa : Nat} {H : Heap} {locs : List Loc} {ls : Array Slot} (hP : va_P D vwCl [(xc0 cy xh xq), (xc1 cy xh xq), (xc2 cy xh xq), (xc10 cy xh xq), (xc13 cy xh xq), (xc21 cy xh xq), (mc0 cy mh mq), (oa, .inl (cy 1, 1, .inr (.inl (fun _ => 0))))] H) (hD : va_D A [(xc0 cy xh xq), (xc1 cy xh xq), (xc2 cy xh xq), (xc10 cy xh xq), (xc13 cy xh xq), (xc21 cy xh xq), (mc0 cy mh mq), (oa, .inl (cy 1, 1, .inr (.inl (fun _ => 0))))]) (hS : va_S A s.heap H locs) (hl : lv_has ls 7 [(4, .int 0), (3, .ref oa), (2, .ref mh), (1, .ref xh), (0, .ref b)]) : W p l e room_1 s m #[Value.ref b] below meth c H locs 79 34218 (lw_Z below #[Value.ref b] s) (F0 m 781 ls []) := by
  obtain ⟨hx, hb, hr, hml, hown, hts, hX, hbl, hlocks, hbA, hA, hA2, hKX, hSF, hET, hl0⟩ := id C1
  rcases sp2 (xs 1) with h1 | h1 | h1
  · refine lv_aload_n hx hb dL_law_781 rfl (lv_at hl 3 rfl) ?_
    refine lv_aload_n hx hb dL_law_782 rfl (lv_at hl 4 rfl) ?_
    refine lv_iload hx hb dL_law_783 (lv_at hl 0 rfl) ?_
    refine lv_iconst (v := 1) hx hb dL_law_785 (by decide) ?_
    refine lv_iadd hx hb dL_law_786 ?_
    refine lv_cst 1 (by decide) ?_
    refine va_sld hx hb hX hbl hbA hS (vind (by decide)) dL_law_787 ?_
    refine lv_cst 0 h1 ?_
    refine lv_aload_n hx hb dL_law_788 rfl (lv_at hl 1 rfl) ?_
    refine cl_i (wr := [(xc13 cy xh xq), (xc21 cy xh xq), (mc0 cy mh mq)]) (vx_runSW (As := [.ref xh, .int 0, .ref oa]) (rest := []) ⟨hx, hb, hml, hown, hts⟩ (l_isOpen_0 l D cy _ _ hl0 xh xq oa _) (vx_cwSW 3 hts gL_law_L_isOpen rfl rfl rfl (by decide +kernel) ⟨(Nat.le_of_ble_eq_true rfl), (Nat.le_of_ble_eq_true rfl)⟩) (pre_ST hKX hP hD hET hS hA [0, 1, 2, 3, 7] rfl (by decide) rfl) rfl rfl hl.1 rfl (lv_room (Nat.le_of_ble_eq_true rfl)) dL_law_789 ⟨(Nat.le_of_ble_eq_true rfl), (Nat.le_of_ble_eq_true rfl)⟩) hP hD hS hA [0, 1, 2, 3, 7] [4, 5, 6] rfl rfl (by decide) (by decide) (fun u1 H locs _ hP hD hS => ?_)
    have hP : va_P D vwCl [(xc13 cy xh xq), (xc21 cy xh xq), (mc0 cy mh mq), (oa, .inl (cy 1, 1, .inr (.inl (vp_updL (fun _ => 0) 0 0))))] H := hP
    have hD : va_D A [(xc13 cy xh xq), (xc21 cy xh xq), (mc0 cy mh mq), (oa, .inl (cy 1, 1, .inr (.inl (vp_updL (fun _ => 0) 0 0))))] := hD
    refine lv_istore (lv' := [(5, .int 0), (4, .int 0), (3, .ref oa), (2, .ref mh), (1, .ref xh), (0, .ref b)]) hx hb dL_law_792 hl (by decide) rfl (fun ls hl => ?_)
    refine lv_aload_n hx hb dL_law_794 rfl (lv_at hl 3 rfl) ?_
    refine lv_aload_n hx hb dL_law_795 rfl (lv_at hl 5 rfl) ?_
    refine lv_iload hx hb dL_law_796 (lv_at hl 1 rfl) ?_
    refine lv_iconst (v := 1) hx hb dL_law_798 (by decide) ?_
    refine lv_iadd hx hb dL_law_799 ?_
    refine lv_cst 1 (by decide) ?_
    refine va_sld hx hb hX hbl hbA hS (vind (by decide)) dL_law_800 ?_
    refine lv_cst 0 h1 ?_
    refine cl_i (wr := [(xc13 cy xh xq), (xc21 cy xh xq), (oa, .inl (cy 1, 1, .inr (.inl (vp_updL (fun _ => 0) 0 0))))]) (va_runV (As := [.int 0]) (rest := []) ⟨hx, hb, hml, hown, hts⟩ (m_isOpen_i l D cy mh mq 0 (by decide) _) (cwV 1 hts gL_law_X12_isOpen rfl rfl rfl (by decide +kernel) ⟨(Nat.le_of_ble_eq_true rfl), (Nat.le_of_ble_eq_true rfl)⟩) (pre_V hKX hP hD (ci := 12) (q0 := 2) rfl rfl [2] rfl (by decide) rfl) rfl rfl hl.1 rfl (lv_room (Nat.le_of_ble_eq_true rfl)) dL_law_801 ⟨(Nat.le_of_ble_eq_true rfl), (Nat.le_of_ble_eq_true rfl)⟩) hP hD hS hA [2] [0, 1, 3] rfl rfl (by decide) (by decide) (fun u2 H locs _ hP hD hS => ?_)
    have hP : va_P D vwCl [(xc13 cy xh xq), (xc21 cy xh xq), (oa, .inl (cy 1, 1, .inr (.inl (vp_updL (fun _ => 0) 0 0)))), (mh, .inr (12, [.int 0, .int 100, .int 200, .int 5, .int 100, .int 0, .int 0, .int 0, .int 0, .int 0, .int 0, .ref (mq 0), .int 0, .ref (mq 1), .ref (mq 2), .ref (mq 3), .ref (mq 4), .ref (mq 5), .ref (mq 6), .ref (mq 7), .ref (mq 8), .ref (mq 9), .ref (mq 10), .int 0, .ref (mq 11), .ref (mq 12), .ref (mq 13), .int 0, .ref (mq 14), .ref (mq 15), .ref (mq 16), .ref (mq 17), .ref (mq 18), .int 0, .int 0, .int 0, .int 0, .int 0, .int 0, .int 0, .int (-1), .ref (mq 19), .ref (mq 20), .ref (mq 21), .ref (mq 22), .ref (mq 23), .ref (mq 24), .int 0, .int 0, .int 0, .ref (mq 25), .ref (mq 26), .ref (mq 27), .ref (mq 28), .ref (mq 29)]))] H := hP
    have hD : va_D A [(xc13 cy xh xq), (xc21 cy xh xq), (oa, .inl (cy 1, 1, .inr (.inl (vp_updL (fun _ => 0) 0 0)))), (mh, .inr (12, [.int 0, .int 100, .int 200, .int 5, .int 100, .int 0, .int 0, .int 0, .int 0, .int 0, .int 0, .ref (mq 0), .int 0, .ref (mq 1), .ref (mq 2), .ref (mq 3), .ref (mq 4), .ref (mq 5), .ref (mq 6), .ref (mq 7), .ref (mq 8), .ref (mq 9), .ref (mq 10), .int 0, .ref (mq 11), .ref (mq 12), .ref (mq 13), .int 0, .ref (mq 14), .ref (mq 15), .ref (mq 16), .ref (mq 17), .ref (mq 18), .int 0, .int 0, .int 0, .int 0, .int 0, .int 0, .int 0, .int (-1), .ref (mq 19), .ref (mq 20), .ref (mq 21), .ref (mq 22), .ref (mq 23), .ref (mq 24), .int 0, .int 0, .int 0, .ref (mq 25), .ref (mq 26), .ref (mq 27), .ref (mq 28), .ref (mq 29)]))] := hD
    refine lv_istore (lv' := [(6, .int 0), (5, .int 0), (4, .int 0), (3, .ref oa), (2, .ref mh), (1, .ref xh), (0, .ref b)]) hx hb dL_law_804 hl (by decide) rfl (fun ls hl => ?_)
    refine lv_aload_n hx hb dL_law_806 rfl (lv_at hl 4 rfl) ?_
    refine cl_i (wr := [(xc13 cy xh xq), (xc21 cy xh xq), (oa, .inl (cy 1, 1, .inr (.inl (vp_updL (fun _ => 0) 0 0))))]) (va_runV (As := []) (rest := []) ⟨hx, hb, hml, hown, hts⟩ (m_thrown l D cy mh mq 0 _) (cwV 0 hts gL_law_X12_thrown rfl rfl rfl (by decide +kernel) ⟨(Nat.le_of_ble_eq_true rfl), (Nat.le_of_ble_eq_true rfl)⟩) (pre_V hKX hP hD (ci := 12) (q0 := 3) rfl rfl [3] rfl (by decide) rfl) rfl rfl hl.1 rfl (lv_room (Nat.le_of_ble_eq_true rfl)) dL_law_807 ⟨(Nat.le_of_ble_eq_true rfl), (Nat.le_of_ble_eq_true rfl)⟩) hP hD hS hA [3] [0, 1, 2] rfl rfl (by decide) (by decide) (fun u3 H locs _ hP hD hS => ?_)
    have hP : va_P D vwCl [(xc13 cy xh xq), (xc21 cy xh xq), (oa, .inl (cy 1, 1, .inr (.inl (vp_updL (fun _ => 0) 0 0)))), (mh, .inr (12, [.int 0, .int 100, .int 200, .int 5, .int 100, .int 0, .int 0, .int 0, .int 0, .int 0, .int 0, .ref (mq 0), .int 0, .ref (mq 1), .ref (mq 2), .ref (mq 3), .ref (mq 4), .ref (mq 5), .ref (mq 6), .ref (mq 7), .ref (mq 8), .ref (mq 9), .ref (mq 10), .int 0, .ref (mq 11), .ref (mq 12), .ref (mq 13), .int 0, .ref (mq 14), .ref (mq 15), .ref (mq 16), .ref (mq 17), .ref (mq 18), .int 0, .int 0, .int 0, .int 0, .int 0, .int 0, .int 0, .int (-1), .ref (mq 19), .ref (mq 20), .ref (mq 21), .ref (mq 22), .ref (mq 23), .ref (mq 24), .int 0, .int 0, .int 0, .ref (mq 25), .ref (mq 26), .ref (mq 27), .ref (mq 28), .ref (mq 29)]))] H := hP
    have hD : va_D A [(xc13 cy xh xq), (xc21 cy xh xq), (oa, .inl (cy 1, 1, .inr (.inl (vp_updL (fun _ => 0) 0 0)))), (mh, .inr (12, [.int 0, .int 100, .int 200, .int 5, .int 100, .int 0, .int 0, .int 0, .int 0, .int 0, .int 0, .ref (mq 0), .int 0, .ref (mq 1), .ref (mq 2), .ref (mq 3), .ref (mq 4), .ref (mq 5), .ref (mq 6), .ref (mq 7), .ref (mq 8), .ref (mq 9), .ref (mq 10), .int 0, .ref (mq 11), .ref (mq 12), .ref (mq 13), .int 0, .ref (mq 14), .ref (mq 15), .ref (mq 16), .ref (mq 17), .ref (mq 18), .int 0, .int 0, .int 0, .int 0, .int 0, .int 0, .int 0, .int (-1), .ref (mq 19), .ref (mq 20), .ref (mq 21), .ref (mq 22), .ref (mq 23), .ref (mq 24), .int 0, .int 0, .int 0, .ref (mq 25), .ref (mq 26), .ref (mq 27), .ref (mq 28), .ref (mq 29)]))] := hD
    refine lv_iload hx hb dL_law_810 (lv_at hl 1 rfl) ?_
    refine lv_icmp_eq (tgt := 817) hx hb dL_law_812 (by decide) (fun _ => ?_) (fun c9 => absurd (by decide) c9)
    refine lv_iload hx hb dL_law_817 (lv_at hl 1 rfl) ?_
    refine lv_if_ne (tgt := 841) hx hb dL_law_819 (by decide) (fun c9 => absurd (by decide) c9) (fun _ => ?_)
    refine lv_aload_n hx hb dL_law_822 rfl (lv_at hl 3 rfl) ?_
    refine lv_iconst (v := 0) hx hb dL_law_823 (by decide) ?_
    refine va_lald hx hb hKX.1 hP 2 1 rfl rfl (vind (by decide)) dL_law_824 ?_
    refine lv_cstl 0 rfl ?_
    refine lv_iload hx hb dL_law_825 (lv_at hl 0 rfl) ?_
    refine lv_if_eq (tgt := 834) hx hb dL_law_827 (by decide) (fun _ => ?_) (fun c9 => absurd (by decide) c9)
    refine lv_lconst (v := 0) hx hb dL_law_834 (by decide) ?_
    refine W.lcmp hx hb dL_law_835 ?_
    refine lv_cst 0 (by decide) ?_
    refine lv_if_eq (tgt := 841) hx hb dL_law_836 (by decide) (fun _ => ?_) (fun c9 => absurd (by decide) c9)
    refine lv_goto (tgt := 1049) hx hb dL_law_841 (by decide) ?_
    exact law_tail C1 (Nat.le_of_ble_eq_true rfl) (Nat.le_of_ble_eq_true rfl) hS (lv_sub hl [2, 6] rfl)
  · refine lv_aload_n hx hb dL_law_781 rfl (lv_at hl 3 rfl) ?_
    refine lv_aload_n hx hb dL_law_782 rfl (lv_at hl 4 rfl) ?_
    refine lv_iload hx hb dL_law_783 (lv_at hl 0 rfl) ?_
    refine lv_iconst (v := 1) hx hb dL_law_785 (by decide) ?_
    refine lv_iadd hx hb dL_law_786 ?_
    refine lv_cst 1 (by decide) ?_
    refine va_sld hx hb hX hbl hbA hS (vind (by decide)) dL_law_787 ?_
    refine lv_cst 1 h1 ?_
    refine lv_aload_n hx hb dL_law_788 rfl (lv_at hl 1 rfl) ?_
    refine cl_i (wr := [(xc2 cy xh xq), (xc10 cy xh xq), (mc0 cy mh mq)]) (vx_runSW (As := [.ref xh, .int 1, .ref oa]) (rest := []) ⟨hx, hb, hml, hown, hts⟩ (l_isOpen_1 l D cy _ _ hl0 xh xq oa _) (vx_cwSW 3 hts gL_law_L_isOpen rfl rfl rfl (by decide +kernel) ⟨(Nat.le_of_ble_eq_true rfl), (Nat.le_of_ble_eq_true rfl)⟩) (pre_ST hKX hP hD hET hS hA [0, 1, 4, 5, 7] rfl (by decide) rfl) rfl rfl hl.1 rfl (lv_room (Nat.le_of_ble_eq_true rfl)) dL_law_789 ⟨(Nat.le_of_ble_eq_true rfl), (Nat.le_of_ble_eq_true rfl)⟩) hP hD hS hA [0, 1, 4, 5, 7] [2, 3, 6] rfl rfl (by decide) (by decide) (fun u4 H locs _ hP hD hS => ?_)
    have hP : va_P D vwCl [(xc2 cy xh xq), (xc10 cy xh xq), (mc0 cy mh mq), (oa, .inl (cy 1, 1, .inr (.inl (vp_updL (fun _ => 0) 0 0))))] H := hP
    have hD : va_D A [(xc2 cy xh xq), (xc10 cy xh xq), (mc0 cy mh mq), (oa, .inl (cy 1, 1, .inr (.inl (vp_updL (fun _ => 0) 0 0))))] := hD
    refine lv_istore (lv' := [(5, .int 0), (4, .int 0), (3, .ref oa), (2, .ref mh), (1, .ref xh), (0, .ref b)]) hx hb dL_law_792 hl (by decide) rfl (fun ls hl => ?_)
    refine lv_aload_n hx hb dL_law_794 rfl (lv_at hl 3 rfl) ?_
    refine lv_aload_n hx hb dL_law_795 rfl (lv_at hl 5 rfl) ?_
    refine lv_iload hx hb dL_law_796 (lv_at hl 1 rfl) ?_
    refine lv_iconst (v := 1) hx hb dL_law_798 (by decide) ?_
    refine lv_iadd hx hb dL_law_799 ?_
    refine lv_cst 1 (by decide) ?_
    refine va_sld hx hb hX hbl hbA hS (vind (by decide)) dL_law_800 ?_
    refine lv_cst 1 h1 ?_
    refine cl_i (wr := [(xc2 cy xh xq), (xc10 cy xh xq), (oa, .inl (cy 1, 1, .inr (.inl (vp_updL (fun _ => 0) 0 0))))]) (va_runV (As := [.int 1]) (rest := []) ⟨hx, hb, hml, hown, hts⟩ (m_isOpen_i l D cy mh mq 1 (by decide) _) (cwV 1 hts gL_law_X12_isOpen rfl rfl rfl (by decide +kernel) ⟨(Nat.le_of_ble_eq_true rfl), (Nat.le_of_ble_eq_true rfl)⟩) (pre_V hKX hP hD (ci := 12) (q0 := 2) rfl rfl [2] rfl (by decide) rfl) rfl rfl hl.1 rfl (lv_room (Nat.le_of_ble_eq_true rfl)) dL_law_801 ⟨(Nat.le_of_ble_eq_true rfl), (Nat.le_of_ble_eq_true rfl)⟩) hP hD hS hA [2] [0, 1, 3] rfl rfl (by decide) (by decide) (fun u5 H locs _ hP hD hS => ?_)
    have hP : va_P D vwCl [(xc2 cy xh xq), (xc10 cy xh xq), (oa, .inl (cy 1, 1, .inr (.inl (vp_updL (fun _ => 0) 0 0)))), (mh, .inr (12, [.int 0, .int 100, .int 200, .int 5, .int 100, .int 0, .int 0, .int 0, .int 0, .int 0, .int 0, .ref (mq 0), .int 0, .ref (mq 1), .ref (mq 2), .ref (mq 3), .ref (mq 4), .ref (mq 5), .ref (mq 6), .ref (mq 7), .ref (mq 8), .ref (mq 9), .ref (mq 10), .int 0, .ref (mq 11), .ref (mq 12), .ref (mq 13), .int 0, .ref (mq 14), .ref (mq 15), .ref (mq 16), .ref (mq 17), .ref (mq 18), .int 0, .int 0, .int 0, .int 0, .int 0, .int 0, .int 0, .int (-1), .ref (mq 19), .ref (mq 20), .ref (mq 21), .ref (mq 22), .ref (mq 23), .ref (mq 24), .int 0, .int 0, .int 0, .ref (mq 25), .ref (mq 26), .ref (mq 27), .ref (mq 28), .ref (mq 29)]))] H := hP
    have hD : va_D A [(xc2 cy xh xq), (xc10 cy xh xq), (oa, .inl (cy 1, 1, .inr (.inl (vp_updL (fun _ => 0) 0 0)))), (mh, .inr (12, [.int 0, .int 100, .int 200, .int 5, .int 100, .int 0, .int 0, .int 0, .int 0, .int 0, .int 0, .ref (mq 0), .int 0, .ref (mq 1), .ref (mq 2), .ref (mq 3), .ref (mq 4), .ref (mq 5), .ref (mq 6), .ref (mq 7), .ref (mq 8), .ref (mq 9), .ref (mq 10), .int 0, .ref (mq 11), .ref (mq 12), .ref (mq 13), .int 0, .ref (mq 14), .ref (mq 15), .ref (mq 16), .ref (mq 17), .ref (mq 18), .int 0, .int 0, .int 0, .int 0, .int 0, .int 0, .int 0, .int (-1), .ref (mq 19), .ref (mq 20), .ref (mq 21), .ref (mq 22), .ref (mq 23), .ref (mq 24), .int 0, .int 0, .int 0, .ref (mq 25), .ref (mq 26), .ref (mq 27), .ref (mq 28), .ref (mq 29)]))] := hD
    refine lv_istore (lv' := [(6, .int 0), (5, .int 0), (4, .int 0), (3, .ref oa), (2, .ref mh), (1, .ref xh), (0, .ref b)]) hx hb dL_law_804 hl (by decide) rfl (fun ls hl => ?_)
    refine lv_aload_n hx hb dL_law_806 rfl (lv_at hl 4 rfl) ?_
    refine cl_i (wr := [(xc2 cy xh xq), (xc10 cy xh xq), (oa, .inl (cy 1, 1, .inr (.inl (vp_updL (fun _ => 0) 0 0))))]) (va_runV (As := []) (rest := []) ⟨hx, hb, hml, hown, hts⟩ (m_thrown l D cy mh mq 0 _) (cwV 0 hts gL_law_X12_thrown rfl rfl rfl (by decide +kernel) ⟨(Nat.le_of_ble_eq_true rfl), (Nat.le_of_ble_eq_true rfl)⟩) (pre_V hKX hP hD (ci := 12) (q0 := 3) rfl rfl [3] rfl (by decide) rfl) rfl rfl hl.1 rfl (lv_room (Nat.le_of_ble_eq_true rfl)) dL_law_807 ⟨(Nat.le_of_ble_eq_true rfl), (Nat.le_of_ble_eq_true rfl)⟩) hP hD hS hA [3] [0, 1, 2] rfl rfl (by decide) (by decide) (fun u6 H locs _ hP hD hS => ?_)
    have hP : va_P D vwCl [(xc2 cy xh xq), (xc10 cy xh xq), (oa, .inl (cy 1, 1, .inr (.inl (vp_updL (fun _ => 0) 0 0)))), (mh, .inr (12, [.int 0, .int 100, .int 200, .int 5, .int 100, .int 0, .int 0, .int 0, .int 0, .int 0, .int 0, .ref (mq 0), .int 0, .ref (mq 1), .ref (mq 2), .ref (mq 3), .ref (mq 4), .ref (mq 5), .ref (mq 6), .ref (mq 7), .ref (mq 8), .ref (mq 9), .ref (mq 10), .int 0, .ref (mq 11), .ref (mq 12), .ref (mq 13), .int 0, .ref (mq 14), .ref (mq 15), .ref (mq 16), .ref (mq 17), .ref (mq 18), .int 0, .int 0, .int 0, .int 0, .int 0, .int 0, .int 0, .int (-1), .ref (mq 19), .ref (mq 20), .ref (mq 21), .ref (mq 22), .ref (mq 23), .ref (mq 24), .int 0, .int 0, .int 0, .ref (mq 25), .ref (mq 26), .ref (mq 27), .ref (mq 28), .ref (mq 29)]))] H := hP
    have hD : va_D A [(xc2 cy xh xq), (xc10 cy xh xq), (oa, .inl (cy 1, 1, .inr (.inl (vp_updL (fun _ => 0) 0 0)))), (mh, .inr (12, [.int 0, .int 100, .int 200, .int 5, .int 100, .int 0, .int 0, .int 0, .int 0, .int 0, .int 0, .ref (mq 0), .int 0, .ref (mq 1), .ref (mq 2), .ref (mq 3), .ref (mq 4), .ref (mq 5), .ref (mq 6), .ref (mq 7), .ref (mq 8), .ref (mq 9), .ref (mq 10), .int 0, .ref (mq 11), .ref (mq 12), .ref (mq 13), .int 0, .ref (mq 14), .ref (mq 15), .ref (mq 16), .ref (mq 17), .ref (mq 18), .int 0, .int 0, .int 0, .int 0, .int 0, .int 0, .int 0, .int (-1), .ref (mq 19), .ref (mq 20), .ref (mq 21), .ref (mq 22), .ref (mq 23), .ref (mq 24), .int 0, .int 0, .int 0, .ref (mq 25), .ref (mq 26), .ref (mq 27), .ref (mq 28), .ref (mq 29)]))] := hD
    refine lv_iload hx hb dL_law_810 (lv_at hl 1 rfl) ?_
    refine lv_icmp_eq (tgt := 817) hx hb dL_law_812 (by decide) (fun _ => ?_) (fun c9 => absurd (by decide) c9)
    refine lv_iload hx hb dL_law_817 (lv_at hl 1 rfl) ?_
    refine lv_if_ne (tgt := 841) hx hb dL_law_819 (by decide) (fun c9 => absurd (by decide) c9) (fun _ => ?_)
    refine lv_aload_n hx hb dL_law_822 rfl (lv_at hl 3 rfl) ?_
    refine lv_iconst (v := 0) hx hb dL_law_823 (by decide) ?_
    refine va_lald hx hb hKX.1 hP 2 1 rfl rfl (vind (by decide)) dL_law_824 ?_
    refine lv_cstl 0 rfl ?_
    refine lv_iload hx hb dL_law_825 (lv_at hl 0 rfl) ?_
    refine lv_if_eq (tgt := 834) hx hb dL_law_827 (by decide) (fun _ => ?_) (fun c9 => absurd (by decide) c9)
    refine lv_lconst (v := 0) hx hb dL_law_834 (by decide) ?_
    refine W.lcmp hx hb dL_law_835 ?_
    refine lv_cst 0 (by decide) ?_
    refine lv_if_eq (tgt := 841) hx hb dL_law_836 (by decide) (fun _ => ?_) (fun c9 => absurd (by decide) c9)
    refine lv_goto (tgt := 1049) hx hb dL_law_841 (by decide) ?_
    exact law_tail C1 (Nat.le_of_ble_eq_true rfl) (Nat.le_of_ble_eq_true rfl) hS (lv_sub hl [2, 6] rfl)
  · refine lv_aload_n hx hb dL_law_781 rfl (lv_at hl 3 rfl) ?_
    refine lv_aload_n hx hb dL_law_782 rfl (lv_at hl 4 rfl) ?_
    refine lv_iload hx hb dL_law_783 (lv_at hl 0 rfl) ?_
    refine lv_iconst (v := 1) hx hb dL_law_785 (by decide) ?_
    refine lv_iadd hx hb dL_law_786 ?_
    refine lv_cst 1 (by decide) ?_
    refine va_sld hx hb hX hbl hbA hS (vind (by decide)) dL_law_787 ?_
    refine lv_cst (xs 1) rfl ?_
    refine lv_aload_n hx hb dL_law_788 rfl (lv_at hl 1 rfl) ?_
    refine cl_i (wr := [(xc1 cy xh xq), (xc2 cy xh xq), (xc10 cy xh xq), (xc13 cy xh xq), (xc21 cy xh xq), (mc0 cy mh mq)]) (vx_runSW (As := [.ref xh, .int (xs 1), .ref oa]) (rest := []) ⟨hx, hb, hml, hown, hts⟩ (l_isOpen_o l D cy _ _ hl0 xh xq oa (xs 1) h1 _) (vx_cwSW 3 hts gL_law_L_isOpen rfl rfl rfl (by decide +kernel) ⟨(Nat.le_of_ble_eq_true rfl), (Nat.le_of_ble_eq_true rfl)⟩) (pre_ST hKX hP hD hET hS hA [0, 7] rfl (by decide) rfl) rfl rfl hl.1 rfl (lv_room (Nat.le_of_ble_eq_true rfl)) dL_law_789 ⟨(Nat.le_of_ble_eq_true rfl), (Nat.le_of_ble_eq_true rfl)⟩) hP hD hS hA [0, 7] [1, 2, 3, 4, 5, 6] rfl rfl (by decide) (by decide) (fun u7 H locs _ hP hD hS => ?_)
    have hP : va_P D vwCl [(xc1 cy xh xq), (xc2 cy xh xq), (xc10 cy xh xq), (xc13 cy xh xq), (xc21 cy xh xq), (mc0 cy mh mq)] H := hP
    have hD : va_D A [(xc1 cy xh xq), (xc2 cy xh xq), (xc10 cy xh xq), (xc13 cy xh xq), (xc21 cy xh xq), (mc0 cy mh mq)] := hD
    refine lv_istore (lv' := [(5, .int 1), (4, .int 0), (3, .ref oa), (2, .ref mh), (1, .ref xh), (0, .ref b)]) hx hb dL_law_792 hl (by decide) rfl (fun ls hl => ?_)
    refine lv_aload_n hx hb dL_law_794 rfl (lv_at hl 3 rfl) ?_
    refine lv_aload_n hx hb dL_law_795 rfl (lv_at hl 5 rfl) ?_
    refine lv_iload hx hb dL_law_796 (lv_at hl 1 rfl) ?_
    refine lv_iconst (v := 1) hx hb dL_law_798 (by decide) ?_
    refine lv_iadd hx hb dL_law_799 ?_
    refine lv_cst 1 (by decide) ?_
    refine va_sld hx hb hX hbl hbA hS (vind (by decide)) dL_law_800 ?_
    refine lv_cst (xs 1) rfl ?_
    refine cl_i (wr := [(xc1 cy xh xq), (xc2 cy xh xq), (xc10 cy xh xq), (xc13 cy xh xq), (xc21 cy xh xq)]) (va_runV (As := [.int (xs 1)]) (rest := []) ⟨hx, hb, hml, hown, hts⟩ (m_isOpen_o l D cy mh mq (xs 1) h1 _) (cwV 1 hts gL_law_X12_isOpen rfl rfl rfl (by decide +kernel) ⟨(Nat.le_of_ble_eq_true rfl), (Nat.le_of_ble_eq_true rfl)⟩) (pre_V hKX hP hD (ci := 12) (q0 := 5) rfl rfl [5] rfl (by decide) rfl) rfl rfl hl.1 rfl (lv_room (Nat.le_of_ble_eq_true rfl)) dL_law_801 ⟨(Nat.le_of_ble_eq_true rfl), (Nat.le_of_ble_eq_true rfl)⟩) hP hD hS hA [5] [0, 1, 2, 3, 4] rfl rfl (by decide) (by decide) (fun u8 H locs _ hP hD hS => ?_)
    have hP : va_P D vwCl [(xc1 cy xh xq), (xc2 cy xh xq), (xc10 cy xh xq), (xc13 cy xh xq), (xc21 cy xh xq), (mh, .inr (12, [.int 1, .int 100, .int 200, .int 5, .int 100, .int 0, .int 0, .int 0, .int 0, .int 0, .int 0, .ref (mq 0), .int 0, .ref (mq 1), .ref (mq 2), .ref (mq 3), .ref (mq 4), .ref (mq 5), .ref (mq 6), .ref (mq 7), .ref (mq 8), .ref (mq 9), .ref (mq 10), .int 0, .ref (mq 11), .ref (mq 12), .ref (mq 13), .int 0, .ref (mq 14), .ref (mq 15), .ref (mq 16), .ref (mq 17), .ref (mq 18), .int 0, .int 0, .int 0, .int 0, .int 0, .int 0, .int 0, .int (-1), .ref (mq 19), .ref (mq 20), .ref (mq 21), .ref (mq 22), .ref (mq 23), .ref (mq 24), .int 0, .int 0, .int 0, .ref (mq 25), .ref (mq 26), .ref (mq 27), .ref (mq 28), .ref (mq 29)]))] H := hP
    have hD : va_D A [(xc1 cy xh xq), (xc2 cy xh xq), (xc10 cy xh xq), (xc13 cy xh xq), (xc21 cy xh xq), (mh, .inr (12, [.int 1, .int 100, .int 200, .int 5, .int 100, .int 0, .int 0, .int 0, .int 0, .int 0, .int 0, .ref (mq 0), .int 0, .ref (mq 1), .ref (mq 2), .ref (mq 3), .ref (mq 4), .ref (mq 5), .ref (mq 6), .ref (mq 7), .ref (mq 8), .ref (mq 9), .ref (mq 10), .int 0, .ref (mq 11), .ref (mq 12), .ref (mq 13), .int 0, .ref (mq 14), .ref (mq 15), .ref (mq 16), .ref (mq 17), .ref (mq 18), .int 0, .int 0, .int 0, .int 0, .int 0, .int 0, .int 0, .int (-1), .ref (mq 19), .ref (mq 20), .ref (mq 21), .ref (mq 22), .ref (mq 23), .ref (mq 24), .int 0, .int 0, .int 0, .ref (mq 25), .ref (mq 26), .ref (mq 27), .ref (mq 28), .ref (mq 29)]))] := hD
    refine lv_istore (lv' := [(6, .int 0), (5, .int 1), (4, .int 0), (3, .ref oa), (2, .ref mh), (1, .ref xh), (0, .ref b)]) hx hb dL_law_804 hl (by decide) rfl (fun ls hl => ?_)
    refine lv_aload_n hx hb dL_law_806 rfl (lv_at hl 4 rfl) ?_
    refine cl_i (wr := [(xc1 cy xh xq), (xc2 cy xh xq), (xc10 cy xh xq), (xc13 cy xh xq), (xc21 cy xh xq)]) (va_runV (As := []) (rest := []) ⟨hx, hb, hml, hown, hts⟩ (m_thrown l D cy mh mq 1 _) (cwV 0 hts gL_law_X12_thrown rfl rfl rfl (by decide +kernel) ⟨(Nat.le_of_ble_eq_true rfl), (Nat.le_of_ble_eq_true rfl)⟩) (pre_V hKX hP hD (ci := 12) (q0 := 5) rfl rfl [5] rfl (by decide) rfl) rfl rfl hl.1 rfl (lv_room (Nat.le_of_ble_eq_true rfl)) dL_law_807 ⟨(Nat.le_of_ble_eq_true rfl), (Nat.le_of_ble_eq_true rfl)⟩) hP hD hS hA [5] [0, 1, 2, 3, 4] rfl rfl (by decide) (by decide) (fun u9 H locs _ hP hD hS => ?_)
    have hP : va_P D vwCl [(xc1 cy xh xq), (xc2 cy xh xq), (xc10 cy xh xq), (xc13 cy xh xq), (xc21 cy xh xq), (mh, .inr (12, [.int 1, .int 100, .int 200, .int 5, .int 100, .int 0, .int 0, .int 0, .int 0, .int 0, .int 0, .ref (mq 0), .int 0, .ref (mq 1), .ref (mq 2), .ref (mq 3), .ref (mq 4), .ref (mq 5), .ref (mq 6), .ref (mq 7), .ref (mq 8), .ref (mq 9), .ref (mq 10), .int 0, .ref (mq 11), .ref (mq 12), .ref (mq 13), .int 0, .ref (mq 14), .ref (mq 15), .ref (mq 16), .ref (mq 17), .ref (mq 18), .int 0, .int 0, .int 0, .int 0, .int 0, .int 0, .int 0, .int (-1), .ref (mq 19), .ref (mq 20), .ref (mq 21), .ref (mq 22), .ref (mq 23), .ref (mq 24), .int 0, .int 0, .int 0, .ref (mq 25), .ref (mq 26), .ref (mq 27), .ref (mq 28), .ref (mq 29)]))] H := hP
    have hD : va_D A [(xc1 cy xh xq), (xc2 cy xh xq), (xc10 cy xh xq), (xc13 cy xh xq), (xc21 cy xh xq), (mh, .inr (12, [.int 1, .int 100, .int 200, .int 5, .int 100, .int 0, .int 0, .int 0, .int 0, .int 0, .int 0, .ref (mq 0), .int 0, .ref (mq 1), .ref (mq 2), .ref (mq 3), .ref (mq 4), .ref (mq 5), .ref (mq 6), .ref (mq 7), .ref (mq 8), .ref (mq 9), .ref (mq 10), .int 0, .ref (mq 11), .ref (mq 12), .ref (mq 13), .int 0, .ref (mq 14), .ref (mq 15), .ref (mq 16), .ref (mq 17), .ref (mq 18), .int 0, .int 0, .int 0, .int 0, .int 0, .int 0, .int 0, .int (-1), .ref (mq 19), .ref (mq 20), .ref (mq 21), .ref (mq 22), .ref (mq 23), .ref (mq 24), .int 0, .int 0, .int 0, .ref (mq 25), .ref (mq 26), .ref (mq 27), .ref (mq 28), .ref (mq 29)]))] := hD
    refine lv_iload hx hb dL_law_810 (lv_at hl 1 rfl) ?_
    refine lv_icmp_eq (tgt := 817) hx hb dL_law_812 (by decide) (fun _ => ?_) (fun c9 => absurd (by decide) c9)
    refine lv_iload hx hb dL_law_817 (lv_at hl 1 rfl) ?_
    refine lv_if_ne (tgt := 841) hx hb dL_law_819 (by decide) (fun _ => ?_) (fun c9 => absurd c9 (by decide))
    refine lv_goto (tgt := 1049) hx hb dL_law_841 (by decide) ?_
    exact law_tail C1 (Nat.le_of_ble_eq_true rfl) (Nat.le_of_ble_eq_true rfl) hS (lv_sub hl [2, 6] rfl)
set_option maxHeartbeats 4000000 in
set_option maxRecDepth 100000 in
/-- ferry on new objects -/
theorem law_ferry {p : Program} {l : Launch} {e : Env} {s : State} {m : MethodId} {below : List Frame} {meth : Method} {c : Code} {b : Nat} {xs : Nat → Int32} {D : va_G} {cy : Nat → ClassId} {tS sa sb : Nat} {A : Nat → Prop} (C1 : lw_Al p l s m meth c b xs D cy tS sa sb A) {xh : Nat} {xq : Nat → Nat} {mh : Nat} {mq : Nat → Nat} {oa : Nat} {H : Heap} {locs : List Loc} {ls : Array Slot} (hP : va_P D vwCl [(xc0 cy xh xq), (xc24 cy xh xq), (xc34 cy xh xq), (mc0 cy mh mq), (mc11 cy mh mq), (oa, .inl (cy 1, 1, .inr (.inl (fun _ => 0))))] H) (hD : va_D A [(xc0 cy xh xq), (xc24 cy xh xq), (xc34 cy xh xq), (mc0 cy mh mq), (mc11 cy mh mq), (oa, .inl (cy 1, 1, .inr (.inl (fun _ => 0))))]) (hS : va_S A s.heap H locs) (hl : lv_has ls 7 [(4, .int 0), (3, .ref oa), (2, .ref mh), (1, .ref xh), (0, .ref b)]) : W p l e room_1 s m #[Value.ref b] below meth c H locs 79 34218 (lw_Z below #[Value.ref b] s) (F0 m 844 ls []) := by
  obtain ⟨hx, hb, hr, hml, hown, hts, hX, hbl, hlocks, hbA, hA, hA2, hKX, hSF, hET, hl0⟩ := id C1
  rcases sp6 (xs 1) with h1 | h1 | h1 | h1 | h1 | h1 | ho
  · refine lv_aload_n hx hb dL_law_844 rfl (lv_at hl 3 rfl) ?_
    refine lv_aload_n hx hb dL_law_845 rfl (lv_at hl 4 rfl) ?_
    refine lv_iload hx hb dL_law_846 (lv_at hl 0 rfl) ?_
    refine lv_iconst (v := 1) hx hb dL_law_848 (by decide) ?_
    refine lv_iadd hx hb dL_law_849 ?_
    refine lv_cst 1 (by decide) ?_
    refine va_sld hx hb hX hbl hbA hS (vind (by decide)) dL_law_850 ?_
    refine lv_cst 0 h1 ?_
    refine lv_aload_n hx hb dL_law_851 rfl (lv_at hl 1 rfl) ?_
    refine cl_i (wr := [(mc0 cy mh mq), (mc11 cy mh mq)]) (vx_runSW (As := [.ref xh, .int 0, .ref oa]) (rest := []) ⟨hx, hb, hml, hown, hts⟩ (l_ferry_0 l D cy _ _ hl0 xh xq oa _) (vx_cwSW 3 hts gL_law_L_ferry rfl rfl rfl (by decide +kernel) ⟨(Nat.le_of_ble_eq_true rfl), (Nat.le_of_ble_eq_true rfl)⟩) (pre_ST hKX hP hD hET hS hA [0, 1, 2, 5] rfl (by decide) rfl) rfl rfl hl.1 rfl (lv_room (Nat.le_of_ble_eq_true rfl)) dL_law_852 ⟨(Nat.le_of_ble_eq_true rfl), (Nat.le_of_ble_eq_true rfl)⟩) hP hD hS hA [0, 1, 2, 5] [3, 4] rfl rfl (by decide) (by decide) (fun u1 H locs _ hP hD hS => ?_)
    have hP : va_P D vwCl [(mc0 cy mh mq), (mc11 cy mh mq), (oa, .inl (cy 1, 1, .inr (.inl (vp_updL (fun _ => 0) 0 0))))] H := hP
    have hD : va_D A [(mc0 cy mh mq), (mc11 cy mh mq), (oa, .inl (cy 1, 1, .inr (.inl (vp_updL (fun _ => 0) 0 0))))] := hD
    refine lv_istore (lv' := [(5, .int 0), (4, .int 0), (3, .ref oa), (2, .ref mh), (1, .ref xh), (0, .ref b)]) hx hb dL_law_855 hl (by decide) rfl (fun ls hl => ?_)
    refine lv_aload_n hx hb dL_law_857 rfl (lv_at hl 3 rfl) ?_
    refine lv_aload_n hx hb dL_law_858 rfl (lv_at hl 5 rfl) ?_
    refine lv_iload hx hb dL_law_859 (lv_at hl 1 rfl) ?_
    refine lv_iconst (v := 1) hx hb dL_law_861 (by decide) ?_
    refine lv_iadd hx hb dL_law_862 ?_
    refine lv_cst 1 (by decide) ?_
    refine va_sld hx hb hX hbl hbA hS (vind (by decide)) dL_law_863 ?_
    refine lv_cst 0 h1 ?_
    refine cl_i (wr := [(oa, .inl (cy 1, 1, .inr (.inl (vp_updL (fun _ => 0) 0 0))))]) (va_runV (As := [.int 0]) (rest := []) ⟨hx, hb, hml, hown, hts⟩ (m_ferry_0 l D cy mh mq _) (cwV 1 hts gL_law_X12_ferry rfl rfl rfl (by decide +kernel) ⟨(Nat.le_of_ble_eq_true rfl), (Nat.le_of_ble_eq_true rfl)⟩) (pre_V hKX hP hD (ci := 12) (q0 := 0) rfl rfl [0, 1] rfl (by decide) rfl) rfl rfl hl.1 rfl (lv_room (Nat.le_of_ble_eq_true rfl)) dL_law_864 ⟨(Nat.le_of_ble_eq_true rfl), (Nat.le_of_ble_eq_true rfl)⟩) hP hD hS hA [0, 1] [2] rfl rfl (by decide) (by decide) (fun u2 H locs _ hP hD hS => ?_)
    have hP : va_P D vwCl [(oa, .inl (cy 1, 1, .inr (.inl (vp_updL (fun _ => 0) 0 0)))), (mh, .inr (12, [.int 0, .int 100, .int 200, .int 5, .int 100, .int 0, .int 0, .int 0, .int 0, .int 0, .int 0, .ref (mq 0), .int 0, .ref (mq 1), .ref (mq 2), .ref (mq 3), .ref (mq 4), .ref (mq 5), .ref (mq 6), .ref (mq 7), .ref (mq 8), .ref (mq 9), .ref (mq 10), .int 0, .ref (mq 11), .ref (mq 12), .ref (mq 13), .int 0, .ref (mq 14), .ref (mq 15), .ref (mq 16), .ref (mq 17), .ref (mq 18), .int 0, .int 0, .int 0, .int 0, .int 0, .int 0, .int 0, .int (-1), .ref (mq 19), .ref (mq 20), .ref (mq 21), .ref (mq 22), .ref (mq 23), .ref (mq 24), .int 0, .int 0, .int 0, .ref (mq 25), .ref (mq 26), .ref (mq 27), .ref (mq 28), .ref (mq 29)])), (mc11 cy mh mq)] H := hP
    have hD : va_D A [(oa, .inl (cy 1, 1, .inr (.inl (vp_updL (fun _ => 0) 0 0)))), (mh, .inr (12, [.int 0, .int 100, .int 200, .int 5, .int 100, .int 0, .int 0, .int 0, .int 0, .int 0, .int 0, .ref (mq 0), .int 0, .ref (mq 1), .ref (mq 2), .ref (mq 3), .ref (mq 4), .ref (mq 5), .ref (mq 6), .ref (mq 7), .ref (mq 8), .ref (mq 9), .ref (mq 10), .int 0, .ref (mq 11), .ref (mq 12), .ref (mq 13), .int 0, .ref (mq 14), .ref (mq 15), .ref (mq 16), .ref (mq 17), .ref (mq 18), .int 0, .int 0, .int 0, .int 0, .int 0, .int 0, .int 0, .int (-1), .ref (mq 19), .ref (mq 20), .ref (mq 21), .ref (mq 22), .ref (mq 23), .ref (mq 24), .int 0, .int 0, .int 0, .ref (mq 25), .ref (mq 26), .ref (mq 27), .ref (mq 28), .ref (mq 29)])), (mc11 cy mh mq)] := hD
    refine lv_istore (lv' := [(6, .int 0), (5, .int 0), (4, .int 0), (3, .ref oa), (2, .ref mh), (1, .ref xh), (0, .ref b)]) hx hb dL_law_867 hl (by decide) rfl (fun ls hl => ?_)
    refine lv_aload_n hx hb dL_law_869 rfl (lv_at hl 4 rfl) ?_
    refine cl_i (wr := [(oa, .inl (cy 1, 1, .inr (.inl (vp_updL (fun _ => 0) 0 0)))), (mc11 cy mh mq)]) (va_runV (As := []) (rest := []) ⟨hx, hb, hml, hown, hts⟩ (m_thrown l D cy mh mq 0 _) (cwV 0 hts gL_law_X12_thrown rfl rfl rfl (by decide +kernel) ⟨(Nat.le_of_ble_eq_true rfl), (Nat.le_of_ble_eq_true rfl)⟩) (pre_V hKX hP hD (ci := 12) (q0 := 1) rfl rfl [1] rfl (by decide) rfl) rfl rfl hl.1 rfl (lv_room (Nat.le_of_ble_eq_true rfl)) dL_law_870 ⟨(Nat.le_of_ble_eq_true rfl), (Nat.le_of_ble_eq_true rfl)⟩) hP hD hS hA [1] [0, 2] rfl rfl (by decide) (by decide) (fun u3 H locs _ hP hD hS => ?_)
    have hP : va_P D vwCl [(oa, .inl (cy 1, 1, .inr (.inl (vp_updL (fun _ => 0) 0 0)))), (mc11 cy mh mq), (mh, .inr (12, [.int 0, .int 100, .int 200, .int 5, .int 100, .int 0, .int 0, .int 0, .int 0, .int 0, .int 0, .ref (mq 0), .int 0, .ref (mq 1), .ref (mq 2), .ref (mq 3), .ref (mq 4), .ref (mq 5), .ref (mq 6), .ref (mq 7), .ref (mq 8), .ref (mq 9), .ref (mq 10), .int 0, .ref (mq 11), .ref (mq 12), .ref (mq 13), .int 0, .ref (mq 14), .ref (mq 15), .ref (mq 16), .ref (mq 17), .ref (mq 18), .int 0, .int 0, .int 0, .int 0, .int 0, .int 0, .int 0, .int (-1), .ref (mq 19), .ref (mq 20), .ref (mq 21), .ref (mq 22), .ref (mq 23), .ref (mq 24), .int 0, .int 0, .int 0, .ref (mq 25), .ref (mq 26), .ref (mq 27), .ref (mq 28), .ref (mq 29)]))] H := hP
    have hD : va_D A [(oa, .inl (cy 1, 1, .inr (.inl (vp_updL (fun _ => 0) 0 0)))), (mc11 cy mh mq), (mh, .inr (12, [.int 0, .int 100, .int 200, .int 5, .int 100, .int 0, .int 0, .int 0, .int 0, .int 0, .int 0, .ref (mq 0), .int 0, .ref (mq 1), .ref (mq 2), .ref (mq 3), .ref (mq 4), .ref (mq 5), .ref (mq 6), .ref (mq 7), .ref (mq 8), .ref (mq 9), .ref (mq 10), .int 0, .ref (mq 11), .ref (mq 12), .ref (mq 13), .int 0, .ref (mq 14), .ref (mq 15), .ref (mq 16), .ref (mq 17), .ref (mq 18), .int 0, .int 0, .int 0, .int 0, .int 0, .int 0, .int 0, .int (-1), .ref (mq 19), .ref (mq 20), .ref (mq 21), .ref (mq 22), .ref (mq 23), .ref (mq 24), .int 0, .int 0, .int 0, .ref (mq 25), .ref (mq 26), .ref (mq 27), .ref (mq 28), .ref (mq 29)]))] := hD
    refine lv_iload hx hb dL_law_873 (lv_at hl 1 rfl) ?_
    refine lv_icmp_eq (tgt := 880) hx hb dL_law_875 (by decide) (fun _ => ?_) (fun c9 => absurd (by decide) c9)
    refine lv_iload hx hb dL_law_880 (lv_at hl 1 rfl) ?_
    refine lv_if_ne (tgt := 897) hx hb dL_law_882 (by decide) (fun c9 => absurd (by decide) c9) (fun _ => ?_)
    refine lv_aload_n hx hb dL_law_885 rfl (lv_at hl 3 rfl) ?_
    refine lv_iconst (v := 0) hx hb dL_law_886 (by decide) ?_
    refine va_lald hx hb hKX.1 hP 0 1 rfl rfl (vind (by decide)) dL_law_887 ?_
    refine lv_cstl 0 rfl ?_
    refine lv_iload hx hb dL_law_888 (lv_at hl 0 rfl) ?_
    refine lv_i2l (v := 0) hx hb dL_law_890 (by decide) ?_
    refine W.lcmp hx hb dL_law_891 ?_
    refine lv_cst 0 (by decide) ?_
    refine lv_if_eq (tgt := 897) hx hb dL_law_892 (by decide) (fun _ => ?_) (fun c9 => absurd (by decide) c9)
    refine lv_goto (tgt := 1049) hx hb dL_law_897 (by decide) ?_
    exact law_tail C1 (Nat.le_of_ble_eq_true rfl) (Nat.le_of_ble_eq_true rfl) hS (lv_sub hl [2, 6] rfl)
  · refine lv_aload_n hx hb dL_law_844 rfl (lv_at hl 3 rfl) ?_
    refine lv_aload_n hx hb dL_law_845 rfl (lv_at hl 4 rfl) ?_
    refine lv_iload hx hb dL_law_846 (lv_at hl 0 rfl) ?_
    refine lv_iconst (v := 1) hx hb dL_law_848 (by decide) ?_
    refine lv_iadd hx hb dL_law_849 ?_
    refine lv_cst 1 (by decide) ?_
    refine va_sld hx hb hX hbl hbA hS (vind (by decide)) dL_law_850 ?_
    refine lv_cst 1 h1 ?_
    refine lv_aload_n hx hb dL_law_851 rfl (lv_at hl 1 rfl) ?_
    refine cl_i (wr := [(mc0 cy mh mq), (mc11 cy mh mq)]) (vx_runSW (As := [.ref xh, .int 1, .ref oa]) (rest := []) ⟨hx, hb, hml, hown, hts⟩ (l_ferry_1 l D cy _ _ hl0 xh xq oa _) (vx_cwSW 3 hts gL_law_L_ferry rfl rfl rfl (by decide +kernel) ⟨(Nat.le_of_ble_eq_true rfl), (Nat.le_of_ble_eq_true rfl)⟩) (pre_ST hKX hP hD hET hS hA [0, 1, 2, 5] rfl (by decide) rfl) rfl rfl hl.1 rfl (lv_room (Nat.le_of_ble_eq_true rfl)) dL_law_852 ⟨(Nat.le_of_ble_eq_true rfl), (Nat.le_of_ble_eq_true rfl)⟩) hP hD hS hA [0, 1, 2, 5] [3, 4] rfl rfl (by decide) (by decide) (fun u4 H locs _ hP hD hS => ?_)
    have hP : va_P D vwCl [(mc0 cy mh mq), (mc11 cy mh mq), (oa, .inl (cy 1, 1, .inr (.inl (vp_updL (fun _ => 0) 0 0))))] H := hP
    have hD : va_D A [(mc0 cy mh mq), (mc11 cy mh mq), (oa, .inl (cy 1, 1, .inr (.inl (vp_updL (fun _ => 0) 0 0))))] := hD
    refine lv_istore (lv' := [(5, .int 0), (4, .int 0), (3, .ref oa), (2, .ref mh), (1, .ref xh), (0, .ref b)]) hx hb dL_law_855 hl (by decide) rfl (fun ls hl => ?_)
    refine lv_aload_n hx hb dL_law_857 rfl (lv_at hl 3 rfl) ?_
    refine lv_aload_n hx hb dL_law_858 rfl (lv_at hl 5 rfl) ?_
    refine lv_iload hx hb dL_law_859 (lv_at hl 1 rfl) ?_
    refine lv_iconst (v := 1) hx hb dL_law_861 (by decide) ?_
    refine lv_iadd hx hb dL_law_862 ?_
    refine lv_cst 1 (by decide) ?_
    refine va_sld hx hb hX hbl hbA hS (vind (by decide)) dL_law_863 ?_
    refine lv_cst 1 h1 ?_
    refine cl_i (wr := [(oa, .inl (cy 1, 1, .inr (.inl (vp_updL (fun _ => 0) 0 0))))]) (va_runV (As := [.int 1]) (rest := []) ⟨hx, hb, hml, hown, hts⟩ (m_ferry_1 l D cy mh mq _) (cwV 1 hts gL_law_X12_ferry rfl rfl rfl (by decide +kernel) ⟨(Nat.le_of_ble_eq_true rfl), (Nat.le_of_ble_eq_true rfl)⟩) (pre_V hKX hP hD (ci := 12) (q0 := 0) rfl rfl [0, 1] rfl (by decide) rfl) rfl rfl hl.1 rfl (lv_room (Nat.le_of_ble_eq_true rfl)) dL_law_864 ⟨(Nat.le_of_ble_eq_true rfl), (Nat.le_of_ble_eq_true rfl)⟩) hP hD hS hA [0, 1] [2] rfl rfl (by decide) (by decide) (fun u5 H locs _ hP hD hS => ?_)
    have hP : va_P D vwCl [(oa, .inl (cy 1, 1, .inr (.inl (vp_updL (fun _ => 0) 0 0)))), (mh, .inr (12, [.int 0, .int 100, .int 200, .int 5, .int 100, .int 0, .int 0, .int 0, .int 0, .int 0, .int 0, .ref (mq 0), .int 0, .ref (mq 1), .ref (mq 2), .ref (mq 3), .ref (mq 4), .ref (mq 5), .ref (mq 6), .ref (mq 7), .ref (mq 8), .ref (mq 9), .ref (mq 10), .int 0, .ref (mq 11), .ref (mq 12), .ref (mq 13), .int 0, .ref (mq 14), .ref (mq 15), .ref (mq 16), .ref (mq 17), .ref (mq 18), .int 0, .int 0, .int 0, .int 0, .int 0, .int 0, .int 0, .int (-1), .ref (mq 19), .ref (mq 20), .ref (mq 21), .ref (mq 22), .ref (mq 23), .ref (mq 24), .int 0, .int 0, .int 0, .ref (mq 25), .ref (mq 26), .ref (mq 27), .ref (mq 28), .ref (mq 29)])), (mc11 cy mh mq)] H := hP
    have hD : va_D A [(oa, .inl (cy 1, 1, .inr (.inl (vp_updL (fun _ => 0) 0 0)))), (mh, .inr (12, [.int 0, .int 100, .int 200, .int 5, .int 100, .int 0, .int 0, .int 0, .int 0, .int 0, .int 0, .ref (mq 0), .int 0, .ref (mq 1), .ref (mq 2), .ref (mq 3), .ref (mq 4), .ref (mq 5), .ref (mq 6), .ref (mq 7), .ref (mq 8), .ref (mq 9), .ref (mq 10), .int 0, .ref (mq 11), .ref (mq 12), .ref (mq 13), .int 0, .ref (mq 14), .ref (mq 15), .ref (mq 16), .ref (mq 17), .ref (mq 18), .int 0, .int 0, .int 0, .int 0, .int 0, .int 0, .int 0, .int (-1), .ref (mq 19), .ref (mq 20), .ref (mq 21), .ref (mq 22), .ref (mq 23), .ref (mq 24), .int 0, .int 0, .int 0, .ref (mq 25), .ref (mq 26), .ref (mq 27), .ref (mq 28), .ref (mq 29)])), (mc11 cy mh mq)] := hD
    refine lv_istore (lv' := [(6, .int 0), (5, .int 0), (4, .int 0), (3, .ref oa), (2, .ref mh), (1, .ref xh), (0, .ref b)]) hx hb dL_law_867 hl (by decide) rfl (fun ls hl => ?_)
    refine lv_aload_n hx hb dL_law_869 rfl (lv_at hl 4 rfl) ?_
    refine cl_i (wr := [(oa, .inl (cy 1, 1, .inr (.inl (vp_updL (fun _ => 0) 0 0)))), (mc11 cy mh mq)]) (va_runV (As := []) (rest := []) ⟨hx, hb, hml, hown, hts⟩ (m_thrown l D cy mh mq 0 _) (cwV 0 hts gL_law_X12_thrown rfl rfl rfl (by decide +kernel) ⟨(Nat.le_of_ble_eq_true rfl), (Nat.le_of_ble_eq_true rfl)⟩) (pre_V hKX hP hD (ci := 12) (q0 := 1) rfl rfl [1] rfl (by decide) rfl) rfl rfl hl.1 rfl (lv_room (Nat.le_of_ble_eq_true rfl)) dL_law_870 ⟨(Nat.le_of_ble_eq_true rfl), (Nat.le_of_ble_eq_true rfl)⟩) hP hD hS hA [1] [0, 2] rfl rfl (by decide) (by decide) (fun u6 H locs _ hP hD hS => ?_)
    have hP : va_P D vwCl [(oa, .inl (cy 1, 1, .inr (.inl (vp_updL (fun _ => 0) 0 0)))), (mc11 cy mh mq), (mh, .inr (12, [.int 0, .int 100, .int 200, .int 5, .int 100, .int 0, .int 0, .int 0, .int 0, .int 0, .int 0, .ref (mq 0), .int 0, .ref (mq 1), .ref (mq 2), .ref (mq 3), .ref (mq 4), .ref (mq 5), .ref (mq 6), .ref (mq 7), .ref (mq 8), .ref (mq 9), .ref (mq 10), .int 0, .ref (mq 11), .ref (mq 12), .ref (mq 13), .int 0, .ref (mq 14), .ref (mq 15), .ref (mq 16), .ref (mq 17), .ref (mq 18), .int 0, .int 0, .int 0, .int 0, .int 0, .int 0, .int 0, .int (-1), .ref (mq 19), .ref (mq 20), .ref (mq 21), .ref (mq 22), .ref (mq 23), .ref (mq 24), .int 0, .int 0, .int 0, .ref (mq 25), .ref (mq 26), .ref (mq 27), .ref (mq 28), .ref (mq 29)]))] H := hP
    have hD : va_D A [(oa, .inl (cy 1, 1, .inr (.inl (vp_updL (fun _ => 0) 0 0)))), (mc11 cy mh mq), (mh, .inr (12, [.int 0, .int 100, .int 200, .int 5, .int 100, .int 0, .int 0, .int 0, .int 0, .int 0, .int 0, .ref (mq 0), .int 0, .ref (mq 1), .ref (mq 2), .ref (mq 3), .ref (mq 4), .ref (mq 5), .ref (mq 6), .ref (mq 7), .ref (mq 8), .ref (mq 9), .ref (mq 10), .int 0, .ref (mq 11), .ref (mq 12), .ref (mq 13), .int 0, .ref (mq 14), .ref (mq 15), .ref (mq 16), .ref (mq 17), .ref (mq 18), .int 0, .int 0, .int 0, .int 0, .int 0, .int 0, .int 0, .int (-1), .ref (mq 19), .ref (mq 20), .ref (mq 21), .ref (mq 22), .ref (mq 23), .ref (mq 24), .int 0, .int 0, .int 0, .ref (mq 25), .ref (mq 26), .ref (mq 27), .ref (mq 28), .ref (mq 29)]))] := hD
    refine lv_iload hx hb dL_law_873 (lv_at hl 1 rfl) ?_
    refine lv_icmp_eq (tgt := 880) hx hb dL_law_875 (by decide) (fun _ => ?_) (fun c9 => absurd (by decide) c9)
    refine lv_iload hx hb dL_law_880 (lv_at hl 1 rfl) ?_
    refine lv_if_ne (tgt := 897) hx hb dL_law_882 (by decide) (fun c9 => absurd (by decide) c9) (fun _ => ?_)
    refine lv_aload_n hx hb dL_law_885 rfl (lv_at hl 3 rfl) ?_
    refine lv_iconst (v := 0) hx hb dL_law_886 (by decide) ?_
    refine va_lald hx hb hKX.1 hP 0 1 rfl rfl (vind (by decide)) dL_law_887 ?_
    refine lv_cstl 0 rfl ?_
    refine lv_iload hx hb dL_law_888 (lv_at hl 0 rfl) ?_
    refine lv_i2l (v := 0) hx hb dL_law_890 (by decide) ?_
    refine W.lcmp hx hb dL_law_891 ?_
    refine lv_cst 0 (by decide) ?_
    refine lv_if_eq (tgt := 897) hx hb dL_law_892 (by decide) (fun _ => ?_) (fun c9 => absurd (by decide) c9)
    refine lv_goto (tgt := 1049) hx hb dL_law_897 (by decide) ?_
    exact law_tail C1 (Nat.le_of_ble_eq_true rfl) (Nat.le_of_ble_eq_true rfl) hS (lv_sub hl [2, 6] rfl)
  · refine lv_aload_n hx hb dL_law_844 rfl (lv_at hl 3 rfl) ?_
    refine lv_aload_n hx hb dL_law_845 rfl (lv_at hl 4 rfl) ?_
    refine lv_iload hx hb dL_law_846 (lv_at hl 0 rfl) ?_
    refine lv_iconst (v := 1) hx hb dL_law_848 (by decide) ?_
    refine lv_iadd hx hb dL_law_849 ?_
    refine lv_cst 1 (by decide) ?_
    refine va_sld hx hb hX hbl hbA hS (vind (by decide)) dL_law_850 ?_
    refine lv_cst 2 h1 ?_
    refine lv_aload_n hx hb dL_law_851 rfl (lv_at hl 1 rfl) ?_
    refine cl_i (wr := [(mc0 cy mh mq), (mc11 cy mh mq)]) (vx_runSW (As := [.ref xh, .int 2, .ref oa]) (rest := []) ⟨hx, hb, hml, hown, hts⟩ (l_ferry_2 l D cy _ _ hl0 xh xq oa _) (vx_cwSW 3 hts gL_law_L_ferry rfl rfl rfl (by decide +kernel) ⟨(Nat.le_of_ble_eq_true rfl), (Nat.le_of_ble_eq_true rfl)⟩) (pre_ST hKX hP hD hET hS hA [0, 1, 2, 5] rfl (by decide) rfl) rfl rfl hl.1 rfl (lv_room (Nat.le_of_ble_eq_true rfl)) dL_law_852 ⟨(Nat.le_of_ble_eq_true rfl), (Nat.le_of_ble_eq_true rfl)⟩) hP hD hS hA [0, 1, 2, 5] [3, 4] rfl rfl (by decide) (by decide) (fun u7 H locs _ hP hD hS => ?_)
    have hP : va_P D vwCl [(mc0 cy mh mq), (mc11 cy mh mq), (oa, .inl (cy 1, 1, .inr (.inl (vp_updL (fun _ => 0) 0 0))))] H := hP
    have hD : va_D A [(mc0 cy mh mq), (mc11 cy mh mq), (oa, .inl (cy 1, 1, .inr (.inl (vp_updL (fun _ => 0) 0 0))))] := hD
    refine lv_istore (lv' := [(5, .int 0), (4, .int 0), (3, .ref oa), (2, .ref mh), (1, .ref xh), (0, .ref b)]) hx hb dL_law_855 hl (by decide) rfl (fun ls hl => ?_)
    refine lv_aload_n hx hb dL_law_857 rfl (lv_at hl 3 rfl) ?_
    refine lv_aload_n hx hb dL_law_858 rfl (lv_at hl 5 rfl) ?_
    refine lv_iload hx hb dL_law_859 (lv_at hl 1 rfl) ?_
    refine lv_iconst (v := 1) hx hb dL_law_861 (by decide) ?_
    refine lv_iadd hx hb dL_law_862 ?_
    refine lv_cst 1 (by decide) ?_
    refine va_sld hx hb hX hbl hbA hS (vind (by decide)) dL_law_863 ?_
    refine lv_cst 2 h1 ?_
    refine cl_i (wr := [(oa, .inl (cy 1, 1, .inr (.inl (vp_updL (fun _ => 0) 0 0))))]) (va_runV (As := [.int 2]) (rest := []) ⟨hx, hb, hml, hown, hts⟩ (m_ferry_2 l D cy mh mq _) (cwV 1 hts gL_law_X12_ferry rfl rfl rfl (by decide +kernel) ⟨(Nat.le_of_ble_eq_true rfl), (Nat.le_of_ble_eq_true rfl)⟩) (pre_V hKX hP hD (ci := 12) (q0 := 0) rfl rfl [0, 1] rfl (by decide) rfl) rfl rfl hl.1 rfl (lv_room (Nat.le_of_ble_eq_true rfl)) dL_law_864 ⟨(Nat.le_of_ble_eq_true rfl), (Nat.le_of_ble_eq_true rfl)⟩) hP hD hS hA [0, 1] [2] rfl rfl (by decide) (by decide) (fun u8 H locs _ hP hD hS => ?_)
    have hP : va_P D vwCl [(oa, .inl (cy 1, 1, .inr (.inl (vp_updL (fun _ => 0) 0 0)))), (mc0 cy mh mq), (mc11 cy mh mq)] H := hP
    have hD : va_D A [(oa, .inl (cy 1, 1, .inr (.inl (vp_updL (fun _ => 0) 0 0)))), (mc0 cy mh mq), (mc11 cy mh mq)] := hD
    refine lv_istore (lv' := [(6, .int 0), (5, .int 0), (4, .int 0), (3, .ref oa), (2, .ref mh), (1, .ref xh), (0, .ref b)]) hx hb dL_law_867 hl (by decide) rfl (fun ls hl => ?_)
    refine lv_aload_n hx hb dL_law_869 rfl (lv_at hl 4 rfl) ?_
    refine cl_i (wr := [(oa, .inl (cy 1, 1, .inr (.inl (vp_updL (fun _ => 0) 0 0)))), (mc11 cy mh mq)]) (va_runV (As := []) (rest := []) ⟨hx, hb, hml, hown, hts⟩ (m_thrown l D cy mh mq 0 _) (cwV 0 hts gL_law_X12_thrown rfl rfl rfl (by decide +kernel) ⟨(Nat.le_of_ble_eq_true rfl), (Nat.le_of_ble_eq_true rfl)⟩) (pre_V hKX hP hD (ci := 12) (q0 := 1) rfl rfl [1] rfl (by decide) rfl) rfl rfl hl.1 rfl (lv_room (Nat.le_of_ble_eq_true rfl)) dL_law_870 ⟨(Nat.le_of_ble_eq_true rfl), (Nat.le_of_ble_eq_true rfl)⟩) hP hD hS hA [1] [0, 2] rfl rfl (by decide) (by decide) (fun u9 H locs _ hP hD hS => ?_)
    have hP : va_P D vwCl [(oa, .inl (cy 1, 1, .inr (.inl (vp_updL (fun _ => 0) 0 0)))), (mc11 cy mh mq), (mh, .inr (12, [.int 0, .int 100, .int 200, .int 5, .int 100, .int 0, .int 0, .int 0, .int 0, .int 0, .int 0, .ref (mq 0), .int 0, .ref (mq 1), .ref (mq 2), .ref (mq 3), .ref (mq 4), .ref (mq 5), .ref (mq 6), .ref (mq 7), .ref (mq 8), .ref (mq 9), .ref (mq 10), .int 0, .ref (mq 11), .ref (mq 12), .ref (mq 13), .int 0, .ref (mq 14), .ref (mq 15), .ref (mq 16), .ref (mq 17), .ref (mq 18), .int 0, .int 0, .int 0, .int 0, .int 0, .int 0, .int 0, .int (-1), .ref (mq 19), .ref (mq 20), .ref (mq 21), .ref (mq 22), .ref (mq 23), .ref (mq 24), .int 0, .int 0, .int 0, .ref (mq 25), .ref (mq 26), .ref (mq 27), .ref (mq 28), .ref (mq 29)]))] H := hP
    have hD : va_D A [(oa, .inl (cy 1, 1, .inr (.inl (vp_updL (fun _ => 0) 0 0)))), (mc11 cy mh mq), (mh, .inr (12, [.int 0, .int 100, .int 200, .int 5, .int 100, .int 0, .int 0, .int 0, .int 0, .int 0, .int 0, .ref (mq 0), .int 0, .ref (mq 1), .ref (mq 2), .ref (mq 3), .ref (mq 4), .ref (mq 5), .ref (mq 6), .ref (mq 7), .ref (mq 8), .ref (mq 9), .ref (mq 10), .int 0, .ref (mq 11), .ref (mq 12), .ref (mq 13), .int 0, .ref (mq 14), .ref (mq 15), .ref (mq 16), .ref (mq 17), .ref (mq 18), .int 0, .int 0, .int 0, .int 0, .int 0, .int 0, .int 0, .int (-1), .ref (mq 19), .ref (mq 20), .ref (mq 21), .ref (mq 22), .ref (mq 23), .ref (mq 24), .int 0, .int 0, .int 0, .ref (mq 25), .ref (mq 26), .ref (mq 27), .ref (mq 28), .ref (mq 29)]))] := hD
    refine lv_iload hx hb dL_law_873 (lv_at hl 1 rfl) ?_
    refine lv_icmp_eq (tgt := 880) hx hb dL_law_875 (by decide) (fun _ => ?_) (fun c9 => absurd (by decide) c9)
    refine lv_iload hx hb dL_law_880 (lv_at hl 1 rfl) ?_
    refine lv_if_ne (tgt := 897) hx hb dL_law_882 (by decide) (fun c9 => absurd (by decide) c9) (fun _ => ?_)
    refine lv_aload_n hx hb dL_law_885 rfl (lv_at hl 3 rfl) ?_
    refine lv_iconst (v := 0) hx hb dL_law_886 (by decide) ?_
    refine va_lald hx hb hKX.1 hP 0 1 rfl rfl (vind (by decide)) dL_law_887 ?_
    refine lv_cstl 0 rfl ?_
    refine lv_iload hx hb dL_law_888 (lv_at hl 0 rfl) ?_
    refine lv_i2l (v := 0) hx hb dL_law_890 (by decide) ?_
    refine W.lcmp hx hb dL_law_891 ?_
    refine lv_cst 0 (by decide) ?_
    refine lv_if_eq (tgt := 897) hx hb dL_law_892 (by decide) (fun _ => ?_) (fun c9 => absurd (by decide) c9)
    refine lv_goto (tgt := 1049) hx hb dL_law_897 (by decide) ?_
    exact law_tail C1 (Nat.le_of_ble_eq_true rfl) (Nat.le_of_ble_eq_true rfl) hS (lv_sub hl [2, 6] rfl)
  · refine lv_aload_n hx hb dL_law_844 rfl (lv_at hl 3 rfl) ?_
    refine lv_aload_n hx hb dL_law_845 rfl (lv_at hl 4 rfl) ?_
    refine lv_iload hx hb dL_law_846 (lv_at hl 0 rfl) ?_
    refine lv_iconst (v := 1) hx hb dL_law_848 (by decide) ?_
    refine lv_iadd hx hb dL_law_849 ?_
    refine lv_cst 1 (by decide) ?_
    refine va_sld hx hb hX hbl hbA hS (vind (by decide)) dL_law_850 ?_
    refine lv_cst 3 h1 ?_
    refine lv_aload_n hx hb dL_law_851 rfl (lv_at hl 1 rfl) ?_
    refine cl_i (wr := [(mc0 cy mh mq), (mc11 cy mh mq)]) (vx_runSW (As := [.ref xh, .int 3, .ref oa]) (rest := []) ⟨hx, hb, hml, hown, hts⟩ (l_ferry_3 l D cy _ _ hl0 xh xq oa _) (vx_cwSW 3 hts gL_law_L_ferry rfl rfl rfl (by decide +kernel) ⟨(Nat.le_of_ble_eq_true rfl), (Nat.le_of_ble_eq_true rfl)⟩) (pre_ST hKX hP hD hET hS hA [0, 1, 2, 5] rfl (by decide) rfl) rfl rfl hl.1 rfl (lv_room (Nat.le_of_ble_eq_true rfl)) dL_law_852 ⟨(Nat.le_of_ble_eq_true rfl), (Nat.le_of_ble_eq_true rfl)⟩) hP hD hS hA [0, 1, 2, 5] [3, 4] rfl rfl (by decide) (by decide) (fun u10 H locs _ hP hD hS => ?_)
    have hP : va_P D vwCl [(mc0 cy mh mq), (mc11 cy mh mq), (oa, .inl (cy 1, 1, .inr (.inl (vp_updL (fun _ => 0) 0 0))))] H := hP
    have hD : va_D A [(mc0 cy mh mq), (mc11 cy mh mq), (oa, .inl (cy 1, 1, .inr (.inl (vp_updL (fun _ => 0) 0 0))))] := hD
    refine lv_istore (lv' := [(5, .int 0), (4, .int 0), (3, .ref oa), (2, .ref mh), (1, .ref xh), (0, .ref b)]) hx hb dL_law_855 hl (by decide) rfl (fun ls hl => ?_)
    refine lv_aload_n hx hb dL_law_857 rfl (lv_at hl 3 rfl) ?_
    refine lv_aload_n hx hb dL_law_858 rfl (lv_at hl 5 rfl) ?_
    refine lv_iload hx hb dL_law_859 (lv_at hl 1 rfl) ?_
    refine lv_iconst (v := 1) hx hb dL_law_861 (by decide) ?_
    refine lv_iadd hx hb dL_law_862 ?_
    refine lv_cst 1 (by decide) ?_
    refine va_sld hx hb hX hbl hbA hS (vind (by decide)) dL_law_863 ?_
    refine lv_cst 3 h1 ?_
    refine cl_i (wr := [(oa, .inl (cy 1, 1, .inr (.inl (vp_updL (fun _ => 0) 0 0))))]) (va_runV (As := [.int 3]) (rest := []) ⟨hx, hb, hml, hown, hts⟩ (m_ferry_3 l D cy mh mq _) (cwV 1 hts gL_law_X12_ferry rfl rfl rfl (by decide +kernel) ⟨(Nat.le_of_ble_eq_true rfl), (Nat.le_of_ble_eq_true rfl)⟩) (pre_V hKX hP hD (ci := 12) (q0 := 0) rfl rfl [0, 1] rfl (by decide) rfl) rfl rfl hl.1 rfl (lv_room (Nat.le_of_ble_eq_true rfl)) dL_law_864 ⟨(Nat.le_of_ble_eq_true rfl), (Nat.le_of_ble_eq_true rfl)⟩) hP hD hS hA [0, 1] [2] rfl rfl (by decide) (by decide) (fun u11 H locs _ hP hD hS => ?_)
    have hP : va_P D vwCl [(oa, .inl (cy 1, 1, .inr (.inl (vp_updL (fun _ => 0) 0 0)))), (mc0 cy mh mq), (mc11 cy mh mq)] H := hP
    have hD : va_D A [(oa, .inl (cy 1, 1, .inr (.inl (vp_updL (fun _ => 0) 0 0)))), (mc0 cy mh mq), (mc11 cy mh mq)] := hD
    refine lv_istore (lv' := [(6, .int 0), (5, .int 0), (4, .int 0), (3, .ref oa), (2, .ref mh), (1, .ref xh), (0, .ref b)]) hx hb dL_law_867 hl (by decide) rfl (fun ls hl => ?_)
    refine lv_aload_n hx hb dL_law_869 rfl (lv_at hl 4 rfl) ?_
    refine cl_i (wr := [(oa, .inl (cy 1, 1, .inr (.inl (vp_updL (fun _ => 0) 0 0)))), (mc11 cy mh mq)]) (va_runV (As := []) (rest := []) ⟨hx, hb, hml, hown, hts⟩ (m_thrown l D cy mh mq 0 _) (cwV 0 hts gL_law_X12_thrown rfl rfl rfl (by decide +kernel) ⟨(Nat.le_of_ble_eq_true rfl), (Nat.le_of_ble_eq_true rfl)⟩) (pre_V hKX hP hD (ci := 12) (q0 := 1) rfl rfl [1] rfl (by decide) rfl) rfl rfl hl.1 rfl (lv_room (Nat.le_of_ble_eq_true rfl)) dL_law_870 ⟨(Nat.le_of_ble_eq_true rfl), (Nat.le_of_ble_eq_true rfl)⟩) hP hD hS hA [1] [0, 2] rfl rfl (by decide) (by decide) (fun u12 H locs _ hP hD hS => ?_)
    have hP : va_P D vwCl [(oa, .inl (cy 1, 1, .inr (.inl (vp_updL (fun _ => 0) 0 0)))), (mc11 cy mh mq), (mh, .inr (12, [.int 0, .int 100, .int 200, .int 5, .int 100, .int 0, .int 0, .int 0, .int 0, .int 0, .int 0, .ref (mq 0), .int 0, .ref (mq 1), .ref (mq 2), .ref (mq 3), .ref (mq 4), .ref (mq 5), .ref (mq 6), .ref (mq 7), .ref (mq 8), .ref (mq 9), .ref (mq 10), .int 0, .ref (mq 11), .ref (mq 12), .ref (mq 13), .int 0, .ref (mq 14), .ref (mq 15), .ref (mq 16), .ref (mq 17), .ref (mq 18), .int 0, .int 0, .int 0, .int 0, .int 0, .int 0, .int 0, .int (-1), .ref (mq 19), .ref (mq 20), .ref (mq 21), .ref (mq 22), .ref (mq 23), .ref (mq 24), .int 0, .int 0, .int 0, .ref (mq 25), .ref (mq 26), .ref (mq 27), .ref (mq 28), .ref (mq 29)]))] H := hP
    have hD : va_D A [(oa, .inl (cy 1, 1, .inr (.inl (vp_updL (fun _ => 0) 0 0)))), (mc11 cy mh mq), (mh, .inr (12, [.int 0, .int 100, .int 200, .int 5, .int 100, .int 0, .int 0, .int 0, .int 0, .int 0, .int 0, .ref (mq 0), .int 0, .ref (mq 1), .ref (mq 2), .ref (mq 3), .ref (mq 4), .ref (mq 5), .ref (mq 6), .ref (mq 7), .ref (mq 8), .ref (mq 9), .ref (mq 10), .int 0, .ref (mq 11), .ref (mq 12), .ref (mq 13), .int 0, .ref (mq 14), .ref (mq 15), .ref (mq 16), .ref (mq 17), .ref (mq 18), .int 0, .int 0, .int 0, .int 0, .int 0, .int 0, .int 0, .int (-1), .ref (mq 19), .ref (mq 20), .ref (mq 21), .ref (mq 22), .ref (mq 23), .ref (mq 24), .int 0, .int 0, .int 0, .ref (mq 25), .ref (mq 26), .ref (mq 27), .ref (mq 28), .ref (mq 29)]))] := hD
    refine lv_iload hx hb dL_law_873 (lv_at hl 1 rfl) ?_
    refine lv_icmp_eq (tgt := 880) hx hb dL_law_875 (by decide) (fun _ => ?_) (fun c9 => absurd (by decide) c9)
    refine lv_iload hx hb dL_law_880 (lv_at hl 1 rfl) ?_
    refine lv_if_ne (tgt := 897) hx hb dL_law_882 (by decide) (fun c9 => absurd (by decide) c9) (fun _ => ?_)
    refine lv_aload_n hx hb dL_law_885 rfl (lv_at hl 3 rfl) ?_
    refine lv_iconst (v := 0) hx hb dL_law_886 (by decide) ?_
    refine va_lald hx hb hKX.1 hP 0 1 rfl rfl (vind (by decide)) dL_law_887 ?_
    refine lv_cstl 0 rfl ?_
    refine lv_iload hx hb dL_law_888 (lv_at hl 0 rfl) ?_
    refine lv_i2l (v := 0) hx hb dL_law_890 (by decide) ?_
    refine W.lcmp hx hb dL_law_891 ?_
    refine lv_cst 0 (by decide) ?_
    refine lv_if_eq (tgt := 897) hx hb dL_law_892 (by decide) (fun _ => ?_) (fun c9 => absurd (by decide) c9)
    refine lv_goto (tgt := 1049) hx hb dL_law_897 (by decide) ?_
    exact law_tail C1 (Nat.le_of_ble_eq_true rfl) (Nat.le_of_ble_eq_true rfl) hS (lv_sub hl [2, 6] rfl)
  · refine lv_aload_n hx hb dL_law_844 rfl (lv_at hl 3 rfl) ?_
    refine lv_aload_n hx hb dL_law_845 rfl (lv_at hl 4 rfl) ?_
    refine lv_iload hx hb dL_law_846 (lv_at hl 0 rfl) ?_
    refine lv_iconst (v := 1) hx hb dL_law_848 (by decide) ?_
    refine lv_iadd hx hb dL_law_849 ?_
    refine lv_cst 1 (by decide) ?_
    refine va_sld hx hb hX hbl hbA hS (vind (by decide)) dL_law_850 ?_
    refine lv_cst 4 h1 ?_
    refine lv_aload_n hx hb dL_law_851 rfl (lv_at hl 1 rfl) ?_
    refine cl_i (wr := [(mc0 cy mh mq), (mc11 cy mh mq)]) (vx_runSW (As := [.ref xh, .int 4, .ref oa]) (rest := []) ⟨hx, hb, hml, hown, hts⟩ (l_ferry_4 l D cy _ _ hl0 xh xq oa _) (vx_cwSW 3 hts gL_law_L_ferry rfl rfl rfl (by decide +kernel) ⟨(Nat.le_of_ble_eq_true rfl), (Nat.le_of_ble_eq_true rfl)⟩) (pre_ST hKX hP hD hET hS hA [0, 1, 2, 5] rfl (by decide) rfl) rfl rfl hl.1 rfl (lv_room (Nat.le_of_ble_eq_true rfl)) dL_law_852 ⟨(Nat.le_of_ble_eq_true rfl), (Nat.le_of_ble_eq_true rfl)⟩) hP hD hS hA [0, 1, 2, 5] [3, 4] rfl rfl (by decide) (by decide) (fun u13 H locs _ hP hD hS => ?_)
    have hP : va_P D vwCl [(mc0 cy mh mq), (mc11 cy mh mq), (oa, .inl (cy 1, 1, .inr (.inl (vp_updL (fun _ => 0) 0 (-1)))))] H := hP
    have hD : va_D A [(mc0 cy mh mq), (mc11 cy mh mq), (oa, .inl (cy 1, 1, .inr (.inl (vp_updL (fun _ => 0) 0 (-1)))))] := hD
    refine lv_istore (lv' := [(5, .int 0), (4, .int 0), (3, .ref oa), (2, .ref mh), (1, .ref xh), (0, .ref b)]) hx hb dL_law_855 hl (by decide) rfl (fun ls hl => ?_)
    refine lv_aload_n hx hb dL_law_857 rfl (lv_at hl 3 rfl) ?_
    refine lv_aload_n hx hb dL_law_858 rfl (lv_at hl 5 rfl) ?_
    refine lv_iload hx hb dL_law_859 (lv_at hl 1 rfl) ?_
    refine lv_iconst (v := 1) hx hb dL_law_861 (by decide) ?_
    refine lv_iadd hx hb dL_law_862 ?_
    refine lv_cst 1 (by decide) ?_
    refine va_sld hx hb hX hbl hbA hS (vind (by decide)) dL_law_863 ?_
    refine lv_cst 4 h1 ?_
    refine cl_i (wr := [(oa, .inl (cy 1, 1, .inr (.inl (vp_updL (fun _ => 0) 0 (-1)))))]) (va_runV (As := [.int 4]) (rest := []) ⟨hx, hb, hml, hown, hts⟩ (m_ferry_4 l D cy mh mq _) (cwV 1 hts gL_law_X12_ferry rfl rfl rfl (by decide +kernel) ⟨(Nat.le_of_ble_eq_true rfl), (Nat.le_of_ble_eq_true rfl)⟩) (pre_V hKX hP hD (ci := 12) (q0 := 0) rfl rfl [0, 1] rfl (by decide) rfl) rfl rfl hl.1 rfl (lv_room (Nat.le_of_ble_eq_true rfl)) dL_law_864 ⟨(Nat.le_of_ble_eq_true rfl), (Nat.le_of_ble_eq_true rfl)⟩) hP hD hS hA [0, 1] [2] rfl rfl (by decide) (by decide) (fun u14 H locs _ hP hD hS => ?_)
    have hP : va_P D vwCl [(oa, .inl (cy 1, 1, .inr (.inl (vp_updL (fun _ => 0) 0 (-1))))), (mh, .inr (12, [.int 0, .int 100, .int 200, .int 5, .int 100, .int 0, .int 0, .int 0, .int 0, .int 0, .int 0, .ref (mq 0), .int 0, .ref (mq 1), .ref (mq 2), .ref (mq 3), .ref (mq 4), .ref (mq 5), .ref (mq 6), .ref (mq 7), .ref (mq 8), .ref (mq 9), .ref (mq 10), .int 0, .ref (mq 11), .ref (mq 12), .ref (mq 13), .int 0, .ref (mq 14), .ref (mq 15), .ref (mq 16), .ref (mq 17), .ref (mq 18), .int 0, .int 0, .int 0, .int 0, .int 0, .int 0, .int 0, .int (-1), .ref (mq 19), .ref (mq 20), .ref (mq 21), .ref (mq 22), .ref (mq 23), .ref (mq 24), .int 0, .int 0, .int 0, .ref (mq 25), .ref (mq 26), .ref (mq 27), .ref (mq 28), .ref (mq 29)])), (mc11 cy mh mq)] H := hP
    have hD : va_D A [(oa, .inl (cy 1, 1, .inr (.inl (vp_updL (fun _ => 0) 0 (-1))))), (mh, .inr (12, [.int 0, .int 100, .int 200, .int 5, .int 100, .int 0, .int 0, .int 0, .int 0, .int 0, .int 0, .ref (mq 0), .int 0, .ref (mq 1), .ref (mq 2), .ref (mq 3), .ref (mq 4), .ref (mq 5), .ref (mq 6), .ref (mq 7), .ref (mq 8), .ref (mq 9), .ref (mq 10), .int 0, .ref (mq 11), .ref (mq 12), .ref (mq 13), .int 0, .ref (mq 14), .ref (mq 15), .ref (mq 16), .ref (mq 17), .ref (mq 18), .int 0, .int 0, .int 0, .int 0, .int 0, .int 0, .int 0, .int (-1), .ref (mq 19), .ref (mq 20), .ref (mq 21), .ref (mq 22), .ref (mq 23), .ref (mq 24), .int 0, .int 0, .int 0, .ref (mq 25), .ref (mq 26), .ref (mq 27), .ref (mq 28), .ref (mq 29)])), (mc11 cy mh mq)] := hD
    refine lv_istore (lv' := [(6, .int (-1)), (5, .int 0), (4, .int 0), (3, .ref oa), (2, .ref mh), (1, .ref xh), (0, .ref b)]) hx hb dL_law_867 hl (by decide) rfl (fun ls hl => ?_)
    refine lv_aload_n hx hb dL_law_869 rfl (lv_at hl 4 rfl) ?_
    refine cl_i (wr := [(oa, .inl (cy 1, 1, .inr (.inl (vp_updL (fun _ => 0) 0 (-1))))), (mc11 cy mh mq)]) (va_runV (As := []) (rest := []) ⟨hx, hb, hml, hown, hts⟩ (m_thrown l D cy mh mq 0 _) (cwV 0 hts gL_law_X12_thrown rfl rfl rfl (by decide +kernel) ⟨(Nat.le_of_ble_eq_true rfl), (Nat.le_of_ble_eq_true rfl)⟩) (pre_V hKX hP hD (ci := 12) (q0 := 1) rfl rfl [1] rfl (by decide) rfl) rfl rfl hl.1 rfl (lv_room (Nat.le_of_ble_eq_true rfl)) dL_law_870 ⟨(Nat.le_of_ble_eq_true rfl), (Nat.le_of_ble_eq_true rfl)⟩) hP hD hS hA [1] [0, 2] rfl rfl (by decide) (by decide) (fun u15 H locs _ hP hD hS => ?_)
    have hP : va_P D vwCl [(oa, .inl (cy 1, 1, .inr (.inl (vp_updL (fun _ => 0) 0 (-1))))), (mc11 cy mh mq), (mh, .inr (12, [.int 0, .int 100, .int 200, .int 5, .int 100, .int 0, .int 0, .int 0, .int 0, .int 0, .int 0, .ref (mq 0), .int 0, .ref (mq 1), .ref (mq 2), .ref (mq 3), .ref (mq 4), .ref (mq 5), .ref (mq 6), .ref (mq 7), .ref (mq 8), .ref (mq 9), .ref (mq 10), .int 0, .ref (mq 11), .ref (mq 12), .ref (mq 13), .int 0, .ref (mq 14), .ref (mq 15), .ref (mq 16), .ref (mq 17), .ref (mq 18), .int 0, .int 0, .int 0, .int 0, .int 0, .int 0, .int 0, .int (-1), .ref (mq 19), .ref (mq 20), .ref (mq 21), .ref (mq 22), .ref (mq 23), .ref (mq 24), .int 0, .int 0, .int 0, .ref (mq 25), .ref (mq 26), .ref (mq 27), .ref (mq 28), .ref (mq 29)]))] H := hP
    have hD : va_D A [(oa, .inl (cy 1, 1, .inr (.inl (vp_updL (fun _ => 0) 0 (-1))))), (mc11 cy mh mq), (mh, .inr (12, [.int 0, .int 100, .int 200, .int 5, .int 100, .int 0, .int 0, .int 0, .int 0, .int 0, .int 0, .ref (mq 0), .int 0, .ref (mq 1), .ref (mq 2), .ref (mq 3), .ref (mq 4), .ref (mq 5), .ref (mq 6), .ref (mq 7), .ref (mq 8), .ref (mq 9), .ref (mq 10), .int 0, .ref (mq 11), .ref (mq 12), .ref (mq 13), .int 0, .ref (mq 14), .ref (mq 15), .ref (mq 16), .ref (mq 17), .ref (mq 18), .int 0, .int 0, .int 0, .int 0, .int 0, .int 0, .int 0, .int (-1), .ref (mq 19), .ref (mq 20), .ref (mq 21), .ref (mq 22), .ref (mq 23), .ref (mq 24), .int 0, .int 0, .int 0, .ref (mq 25), .ref (mq 26), .ref (mq 27), .ref (mq 28), .ref (mq 29)]))] := hD
    refine lv_iload hx hb dL_law_873 (lv_at hl 1 rfl) ?_
    refine lv_icmp_eq (tgt := 880) hx hb dL_law_875 (by decide) (fun _ => ?_) (fun c9 => absurd (by decide) c9)
    refine lv_iload hx hb dL_law_880 (lv_at hl 1 rfl) ?_
    refine lv_if_ne (tgt := 897) hx hb dL_law_882 (by decide) (fun c9 => absurd (by decide) c9) (fun _ => ?_)
    refine lv_aload_n hx hb dL_law_885 rfl (lv_at hl 3 rfl) ?_
    refine lv_iconst (v := 0) hx hb dL_law_886 (by decide) ?_
    refine va_lald hx hb hKX.1 hP 0 1 rfl rfl (vind (by decide)) dL_law_887 ?_
    refine lv_cstl (-1) rfl ?_
    refine lv_iload hx hb dL_law_888 (lv_at hl 0 rfl) ?_
    refine lv_i2l (v := (-1)) hx hb dL_law_890 (by decide) ?_
    refine W.lcmp hx hb dL_law_891 ?_
    refine lv_cst 0 (by decide) ?_
    refine lv_if_eq (tgt := 897) hx hb dL_law_892 (by decide) (fun _ => ?_) (fun c9 => absurd (by decide) c9)
    refine lv_goto (tgt := 1049) hx hb dL_law_897 (by decide) ?_
    exact law_tail C1 (Nat.le_of_ble_eq_true rfl) (Nat.le_of_ble_eq_true rfl) hS (lv_sub hl [2, 6] rfl)
  · refine lv_aload_n hx hb dL_law_844 rfl (lv_at hl 3 rfl) ?_
    refine lv_aload_n hx hb dL_law_845 rfl (lv_at hl 4 rfl) ?_
    refine lv_iload hx hb dL_law_846 (lv_at hl 0 rfl) ?_
    refine lv_iconst (v := 1) hx hb dL_law_848 (by decide) ?_
    refine lv_iadd hx hb dL_law_849 ?_
    refine lv_cst 1 (by decide) ?_
    refine va_sld hx hb hX hbl hbA hS (vind (by decide)) dL_law_850 ?_
    refine lv_cst 5 h1 ?_
    refine lv_aload_n hx hb dL_law_851 rfl (lv_at hl 1 rfl) ?_
    refine cl_i (wr := [(mc0 cy mh mq), (mc11 cy mh mq)]) (vx_runSW (As := [.ref xh, .int 5, .ref oa]) (rest := []) ⟨hx, hb, hml, hown, hts⟩ (l_ferry_5 l D cy _ _ hl0 xh xq oa _) (vx_cwSW 3 hts gL_law_L_ferry rfl rfl rfl (by decide +kernel) ⟨(Nat.le_of_ble_eq_true rfl), (Nat.le_of_ble_eq_true rfl)⟩) (pre_ST hKX hP hD hET hS hA [0, 1, 2, 5] rfl (by decide) rfl) rfl rfl hl.1 rfl (lv_room (Nat.le_of_ble_eq_true rfl)) dL_law_852 ⟨(Nat.le_of_ble_eq_true rfl), (Nat.le_of_ble_eq_true rfl)⟩) hP hD hS hA [0, 1, 2, 5] [3, 4] rfl rfl (by decide) (by decide) (fun u16 H locs _ hP hD hS => ?_)
    have hP : va_P D vwCl [(mc0 cy mh mq), (mc11 cy mh mq), (oa, .inl (cy 1, 1, .inr (.inl (vp_updL (fun _ => 0) 0 0))))] H := hP
    have hD : va_D A [(mc0 cy mh mq), (mc11 cy mh mq), (oa, .inl (cy 1, 1, .inr (.inl (vp_updL (fun _ => 0) 0 0))))] := hD
    refine lv_istore (lv' := [(5, .int 0), (4, .int 0), (3, .ref oa), (2, .ref mh), (1, .ref xh), (0, .ref b)]) hx hb dL_law_855 hl (by decide) rfl (fun ls hl => ?_)
    refine lv_aload_n hx hb dL_law_857 rfl (lv_at hl 3 rfl) ?_
    refine lv_aload_n hx hb dL_law_858 rfl (lv_at hl 5 rfl) ?_
    refine lv_iload hx hb dL_law_859 (lv_at hl 1 rfl) ?_
    refine lv_iconst (v := 1) hx hb dL_law_861 (by decide) ?_
    refine lv_iadd hx hb dL_law_862 ?_
    refine lv_cst 1 (by decide) ?_
    refine va_sld hx hb hX hbl hbA hS (vind (by decide)) dL_law_863 ?_
    refine lv_cst 5 h1 ?_
    refine cl_i (wr := [(oa, .inl (cy 1, 1, .inr (.inl (vp_updL (fun _ => 0) 0 0))))]) (va_runV (As := [.int 5]) (rest := []) ⟨hx, hb, hml, hown, hts⟩ (m_ferry_5 l D cy mh mq _) (cwV 1 hts gL_law_X12_ferry rfl rfl rfl (by decide +kernel) ⟨(Nat.le_of_ble_eq_true rfl), (Nat.le_of_ble_eq_true rfl)⟩) (pre_V hKX hP hD (ci := 12) (q0 := 0) rfl rfl [0, 1] rfl (by decide) rfl) rfl rfl hl.1 rfl (lv_room (Nat.le_of_ble_eq_true rfl)) dL_law_864 ⟨(Nat.le_of_ble_eq_true rfl), (Nat.le_of_ble_eq_true rfl)⟩) hP hD hS hA [0, 1] [2] rfl rfl (by decide) (by decide) (fun u17 H locs _ hP hD hS => ?_)
    have hP : va_P D vwCl [(oa, .inl (cy 1, 1, .inr (.inl (vp_updL (fun _ => 0) 0 0)))), (mc0 cy mh mq), (mc11 cy mh mq)] H := hP
    have hD : va_D A [(oa, .inl (cy 1, 1, .inr (.inl (vp_updL (fun _ => 0) 0 0)))), (mc0 cy mh mq), (mc11 cy mh mq)] := hD
    refine lv_istore (lv' := [(6, .int 0), (5, .int 0), (4, .int 0), (3, .ref oa), (2, .ref mh), (1, .ref xh), (0, .ref b)]) hx hb dL_law_867 hl (by decide) rfl (fun ls hl => ?_)
    refine lv_aload_n hx hb dL_law_869 rfl (lv_at hl 4 rfl) ?_
    refine cl_i (wr := [(oa, .inl (cy 1, 1, .inr (.inl (vp_updL (fun _ => 0) 0 0)))), (mc11 cy mh mq)]) (va_runV (As := []) (rest := []) ⟨hx, hb, hml, hown, hts⟩ (m_thrown l D cy mh mq 0 _) (cwV 0 hts gL_law_X12_thrown rfl rfl rfl (by decide +kernel) ⟨(Nat.le_of_ble_eq_true rfl), (Nat.le_of_ble_eq_true rfl)⟩) (pre_V hKX hP hD (ci := 12) (q0 := 1) rfl rfl [1] rfl (by decide) rfl) rfl rfl hl.1 rfl (lv_room (Nat.le_of_ble_eq_true rfl)) dL_law_870 ⟨(Nat.le_of_ble_eq_true rfl), (Nat.le_of_ble_eq_true rfl)⟩) hP hD hS hA [1] [0, 2] rfl rfl (by decide) (by decide) (fun u18 H locs _ hP hD hS => ?_)
    have hP : va_P D vwCl [(oa, .inl (cy 1, 1, .inr (.inl (vp_updL (fun _ => 0) 0 0)))), (mc11 cy mh mq), (mh, .inr (12, [.int 0, .int 100, .int 200, .int 5, .int 100, .int 0, .int 0, .int 0, .int 0, .int 0, .int 0, .ref (mq 0), .int 0, .ref (mq 1), .ref (mq 2), .ref (mq 3), .ref (mq 4), .ref (mq 5), .ref (mq 6), .ref (mq 7), .ref (mq 8), .ref (mq 9), .ref (mq 10), .int 0, .ref (mq 11), .ref (mq 12), .ref (mq 13), .int 0, .ref (mq 14), .ref (mq 15), .ref (mq 16), .ref (mq 17), .ref (mq 18), .int 0, .int 0, .int 0, .int 0, .int 0, .int 0, .int 0, .int (-1), .ref (mq 19), .ref (mq 20), .ref (mq 21), .ref (mq 22), .ref (mq 23), .ref (mq 24), .int 0, .int 0, .int 0, .ref (mq 25), .ref (mq 26), .ref (mq 27), .ref (mq 28), .ref (mq 29)]))] H := hP
    have hD : va_D A [(oa, .inl (cy 1, 1, .inr (.inl (vp_updL (fun _ => 0) 0 0)))), (mc11 cy mh mq), (mh, .inr (12, [.int 0, .int 100, .int 200, .int 5, .int 100, .int 0, .int 0, .int 0, .int 0, .int 0, .int 0, .ref (mq 0), .int 0, .ref (mq 1), .ref (mq 2), .ref (mq 3), .ref (mq 4), .ref (mq 5), .ref (mq 6), .ref (mq 7), .ref (mq 8), .ref (mq 9), .ref (mq 10), .int 0, .ref (mq 11), .ref (mq 12), .ref (mq 13), .int 0, .ref (mq 14), .ref (mq 15), .ref (mq 16), .ref (mq 17), .ref (mq 18), .int 0, .int 0, .int 0, .int 0, .int 0, .int 0, .int 0, .int (-1), .ref (mq 19), .ref (mq 20), .ref (mq 21), .ref (mq 22), .ref (mq 23), .ref (mq 24), .int 0, .int 0, .int 0, .ref (mq 25), .ref (mq 26), .ref (mq 27), .ref (mq 28), .ref (mq 29)]))] := hD
    refine lv_iload hx hb dL_law_873 (lv_at hl 1 rfl) ?_
    refine lv_icmp_eq (tgt := 880) hx hb dL_law_875 (by decide) (fun _ => ?_) (fun c9 => absurd (by decide) c9)
    refine lv_iload hx hb dL_law_880 (lv_at hl 1 rfl) ?_
    refine lv_if_ne (tgt := 897) hx hb dL_law_882 (by decide) (fun c9 => absurd (by decide) c9) (fun _ => ?_)
    refine lv_aload_n hx hb dL_law_885 rfl (lv_at hl 3 rfl) ?_
    refine lv_iconst (v := 0) hx hb dL_law_886 (by decide) ?_
    refine va_lald hx hb hKX.1 hP 0 1 rfl rfl (vind (by decide)) dL_law_887 ?_
    refine lv_cstl 0 rfl ?_
    refine lv_iload hx hb dL_law_888 (lv_at hl 0 rfl) ?_
    refine lv_i2l (v := 0) hx hb dL_law_890 (by decide) ?_
    refine W.lcmp hx hb dL_law_891 ?_
    refine lv_cst 0 (by decide) ?_
    refine lv_if_eq (tgt := 897) hx hb dL_law_892 (by decide) (fun _ => ?_) (fun c9 => absurd (by decide) c9)
    refine lv_goto (tgt := 1049) hx hb dL_law_897 (by decide) ?_
    exact law_tail C1 (Nat.le_of_ble_eq_true rfl) (Nat.le_of_ble_eq_true rfl) hS (lv_sub hl [2, 6] rfl)
  · refine lv_aload_n hx hb dL_law_844 rfl (lv_at hl 3 rfl) ?_
    refine lv_aload_n hx hb dL_law_845 rfl (lv_at hl 4 rfl) ?_
    refine lv_iload hx hb dL_law_846 (lv_at hl 0 rfl) ?_
    refine lv_iconst (v := 1) hx hb dL_law_848 (by decide) ?_
    refine lv_iadd hx hb dL_law_849 ?_
    refine lv_cst 1 (by decide) ?_
    refine va_sld hx hb hX hbl hbA hS (vind (by decide)) dL_law_850 ?_
    refine lv_cst (xs 1) rfl ?_
    refine lv_aload_n hx hb dL_law_851 rfl (lv_at hl 1 rfl) ?_
    refine cl_i (wr := [(xc24 cy xh xq), (xc34 cy xh xq), (mc0 cy mh mq), (mc11 cy mh mq)]) (vx_runSW (As := [.ref xh, .int (xs 1), .ref oa]) (rest := []) ⟨hx, hb, hml, hown, hts⟩ (l_ferry_o l D cy _ _ hl0 xh xq oa (xs 1) ho _) (vx_cwSW 3 hts gL_law_L_ferry rfl rfl rfl (by decide +kernel) ⟨(Nat.le_of_ble_eq_true rfl), (Nat.le_of_ble_eq_true rfl)⟩) (pre_ST hKX hP hD hET hS hA [0, 5] rfl (by decide) rfl) rfl rfl hl.1 rfl (lv_room (Nat.le_of_ble_eq_true rfl)) dL_law_852 ⟨(Nat.le_of_ble_eq_true rfl), (Nat.le_of_ble_eq_true rfl)⟩) hP hD hS hA [0, 5] [1, 2, 3, 4] rfl rfl (by decide) (by decide) (fun u19 H locs _ hP hD hS => ?_)
    have hP : va_P D vwCl [(xc24 cy xh xq), (xc34 cy xh xq), (mc0 cy mh mq), (mc11 cy mh mq)] H := hP
    have hD : va_D A [(xc24 cy xh xq), (xc34 cy xh xq), (mc0 cy mh mq), (mc11 cy mh mq)] := hD
    refine lv_istore (lv' := [(5, .int 1), (4, .int 0), (3, .ref oa), (2, .ref mh), (1, .ref xh), (0, .ref b)]) hx hb dL_law_855 hl (by decide) rfl (fun ls hl => ?_)
    refine lv_aload_n hx hb dL_law_857 rfl (lv_at hl 3 rfl) ?_
    refine lv_aload_n hx hb dL_law_858 rfl (lv_at hl 5 rfl) ?_
    refine lv_iload hx hb dL_law_859 (lv_at hl 1 rfl) ?_
    refine lv_iconst (v := 1) hx hb dL_law_861 (by decide) ?_
    refine lv_iadd hx hb dL_law_862 ?_
    refine lv_cst 1 (by decide) ?_
    refine va_sld hx hb hX hbl hbA hS (vind (by decide)) dL_law_863 ?_
    refine lv_cst (xs 1) rfl ?_
    refine cl_i (wr := [(xc24 cy xh xq), (xc34 cy xh xq)]) (va_runV (As := [.int (xs 1)]) (rest := []) ⟨hx, hb, hml, hown, hts⟩ (m_ferry_o l D cy mh mq (xs 1) ho _) (cwV 1 hts gL_law_X12_ferry rfl rfl rfl (by decide +kernel) ⟨(Nat.le_of_ble_eq_true rfl), (Nat.le_of_ble_eq_true rfl)⟩) (pre_V hKX hP hD (ci := 12) (q0 := 2) rfl rfl [2, 3] rfl (by decide) rfl) rfl rfl hl.1 rfl (lv_room (Nat.le_of_ble_eq_true rfl)) dL_law_864 ⟨(Nat.le_of_ble_eq_true rfl), (Nat.le_of_ble_eq_true rfl)⟩) hP hD hS hA [2, 3] [0, 1] rfl rfl (by decide) (by decide) (fun u20 H locs _ hP hD hS => ?_)
    have hP : va_P D vwCl [(xc24 cy xh xq), (xc34 cy xh xq), (mh, .inr (12, [.int 1, .int 100, .int 200, .int 5, .int 100, .int 0, .int 0, .int 0, .int 0, .int 0, .int 0, .ref (mq 0), .int 0, .ref (mq 1), .ref (mq 2), .ref (mq 3), .ref (mq 4), .ref (mq 5), .ref (mq 6), .ref (mq 7), .ref (mq 8), .ref (mq 9), .ref (mq 10), .int 0, .ref (mq 11), .ref (mq 12), .ref (mq 13), .int 0, .ref (mq 14), .ref (mq 15), .ref (mq 16), .ref (mq 17), .ref (mq 18), .int 0, .int 0, .int 0, .int 0, .int 0, .int 0, .int 0, .int (-1), .ref (mq 19), .ref (mq 20), .ref (mq 21), .ref (mq 22), .ref (mq 23), .ref (mq 24), .int 0, .int 0, .int 0, .ref (mq 25), .ref (mq 26), .ref (mq 27), .ref (mq 28), .ref (mq 29)])), (mc11 cy mh mq)] H := hP
    have hD : va_D A [(xc24 cy xh xq), (xc34 cy xh xq), (mh, .inr (12, [.int 1, .int 100, .int 200, .int 5, .int 100, .int 0, .int 0, .int 0, .int 0, .int 0, .int 0, .ref (mq 0), .int 0, .ref (mq 1), .ref (mq 2), .ref (mq 3), .ref (mq 4), .ref (mq 5), .ref (mq 6), .ref (mq 7), .ref (mq 8), .ref (mq 9), .ref (mq 10), .int 0, .ref (mq 11), .ref (mq 12), .ref (mq 13), .int 0, .ref (mq 14), .ref (mq 15), .ref (mq 16), .ref (mq 17), .ref (mq 18), .int 0, .int 0, .int 0, .int 0, .int 0, .int 0, .int 0, .int (-1), .ref (mq 19), .ref (mq 20), .ref (mq 21), .ref (mq 22), .ref (mq 23), .ref (mq 24), .int 0, .int 0, .int 0, .ref (mq 25), .ref (mq 26), .ref (mq 27), .ref (mq 28), .ref (mq 29)])), (mc11 cy mh mq)] := hD
    refine lv_istore (lv' := [(6, .int 0), (5, .int 1), (4, .int 0), (3, .ref oa), (2, .ref mh), (1, .ref xh), (0, .ref b)]) hx hb dL_law_867 hl (by decide) rfl (fun ls hl => ?_)
    refine lv_aload_n hx hb dL_law_869 rfl (lv_at hl 4 rfl) ?_
    refine cl_i (wr := [(xc24 cy xh xq), (xc34 cy xh xq), (mc11 cy mh mq)]) (va_runV (As := []) (rest := []) ⟨hx, hb, hml, hown, hts⟩ (m_thrown l D cy mh mq 1 _) (cwV 0 hts gL_law_X12_thrown rfl rfl rfl (by decide +kernel) ⟨(Nat.le_of_ble_eq_true rfl), (Nat.le_of_ble_eq_true rfl)⟩) (pre_V hKX hP hD (ci := 12) (q0 := 2) rfl rfl [2] rfl (by decide) rfl) rfl rfl hl.1 rfl (lv_room (Nat.le_of_ble_eq_true rfl)) dL_law_870 ⟨(Nat.le_of_ble_eq_true rfl), (Nat.le_of_ble_eq_true rfl)⟩) hP hD hS hA [2] [0, 1, 3] rfl rfl (by decide) (by decide) (fun u21 H locs _ hP hD hS => ?_)
    have hP : va_P D vwCl [(xc24 cy xh xq), (xc34 cy xh xq), (mc11 cy mh mq), (mh, .inr (12, [.int 1, .int 100, .int 200, .int 5, .int 100, .int 0, .int 0, .int 0, .int 0, .int 0, .int 0, .ref (mq 0), .int 0, .ref (mq 1), .ref (mq 2), .ref (mq 3), .ref (mq 4), .ref (mq 5), .ref (mq 6), .ref (mq 7), .ref (mq 8), .ref (mq 9), .ref (mq 10), .int 0, .ref (mq 11), .ref (mq 12), .ref (mq 13), .int 0, .ref (mq 14), .ref (mq 15), .ref (mq 16), .ref (mq 17), .ref (mq 18), .int 0, .int 0, .int 0, .int 0, .int 0, .int 0, .int 0, .int (-1), .ref (mq 19), .ref (mq 20), .ref (mq 21), .ref (mq 22), .ref (mq 23), .ref (mq 24), .int 0, .int 0, .int 0, .ref (mq 25), .ref (mq 26), .ref (mq 27), .ref (mq 28), .ref (mq 29)]))] H := hP
    have hD : va_D A [(xc24 cy xh xq), (xc34 cy xh xq), (mc11 cy mh mq), (mh, .inr (12, [.int 1, .int 100, .int 200, .int 5, .int 100, .int 0, .int 0, .int 0, .int 0, .int 0, .int 0, .ref (mq 0), .int 0, .ref (mq 1), .ref (mq 2), .ref (mq 3), .ref (mq 4), .ref (mq 5), .ref (mq 6), .ref (mq 7), .ref (mq 8), .ref (mq 9), .ref (mq 10), .int 0, .ref (mq 11), .ref (mq 12), .ref (mq 13), .int 0, .ref (mq 14), .ref (mq 15), .ref (mq 16), .ref (mq 17), .ref (mq 18), .int 0, .int 0, .int 0, .int 0, .int 0, .int 0, .int 0, .int (-1), .ref (mq 19), .ref (mq 20), .ref (mq 21), .ref (mq 22), .ref (mq 23), .ref (mq 24), .int 0, .int 0, .int 0, .ref (mq 25), .ref (mq 26), .ref (mq 27), .ref (mq 28), .ref (mq 29)]))] := hD
    refine lv_iload hx hb dL_law_873 (lv_at hl 1 rfl) ?_
    refine lv_icmp_eq (tgt := 880) hx hb dL_law_875 (by decide) (fun _ => ?_) (fun c9 => absurd (by decide) c9)
    refine lv_iload hx hb dL_law_880 (lv_at hl 1 rfl) ?_
    refine lv_if_ne (tgt := 897) hx hb dL_law_882 (by decide) (fun _ => ?_) (fun c9 => absurd c9 (by decide))
    refine lv_goto (tgt := 1049) hx hb dL_law_897 (by decide) ?_
    exact law_tail C1 (Nat.le_of_ble_eq_true rfl) (Nat.le_of_ble_eq_true rfl) hS (lv_sub hl [2, 6] rfl)
