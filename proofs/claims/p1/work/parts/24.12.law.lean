set_option maxHeartbeats 4000000 in
set_option maxRecDepth 100000 in
/-- feed on new objects -/
theorem law_feed {p : Program} {l : Launch} {e : Env} {s : State} {m : MethodId} {below : List Frame} {meth : Method} {c : Code} {b : Nat} {xs : Nat → Int32} {D : va_G} {cy : Nat → ClassId} {tS sa sb : Nat} {A : Nat → Prop} (C1 : lw_Al p l s m meth c b xs D cy tS sa sb A) {xh : Nat} {xq : Nat → Nat} {mh : Nat} {mq : Nat → Nat} {oa : Nat} {H : Heap} {locs : List Loc} {ls : Array Slot} (hP : va_P D vwCl [(xc0 cy xh xq), (xc40 cy xh xq), (xc41 cy xh xq), (xc42 cy xh xq), (mc0 cy mh mq), (mc19 cy mh mq)] H) (hD : va_D A [(xc0 cy xh xq), (xc40 cy xh xq), (xc41 cy xh xq), (xc42 cy xh xq), (mc0 cy mh mq), (mc19 cy mh mq)]) (hS : va_S A s.heap H locs) (hl : lv_has ls 7 [(4, .int 0), (3, .ref oa), (2, .ref mh), (1, .ref xh), (0, .ref b)]) : W p l e room_1 s m #[Value.ref b] below meth c H locs 79 34218 (lw_Z below #[Value.ref b] s) (F0 m 434 ls []) := by
  obtain ⟨hx, hb, hr, hml, hown, hts, hX, hbl, hlocks, hbA, hA, hA2, hKX, hSF, hET, hl0⟩ := id C1
  refine lv_aload_n hx hb dL_law_434 rfl (lv_at hl 3 rfl) ?_
  refine lv_aload_n hx hb dL_law_435 rfl (lv_at hl 4 rfl) ?_
  refine lv_iload hx hb dL_law_436 (lv_at hl 0 rfl) ?_
  refine lv_iconst (v := 1) hx hb dL_law_438 (by decide) ?_
  refine lv_iadd hx hb dL_law_439 ?_
  refine lv_cst 1 (by decide) ?_
  refine va_sld hx hb hX hbl hbA hS (vind (by decide)) dL_law_440 ?_
  refine lv_cst (xs 1) rfl ?_
  refine lv_aload_n hx hb dL_law_441 rfl (lv_at hl 4 rfl) ?_
  refine lv_iload hx hb dL_law_442 (lv_at hl 0 rfl) ?_
  refine lv_iconst (v := 2) hx hb dL_law_444 (by decide) ?_
  refine lv_iadd hx hb dL_law_445 ?_
  refine lv_cst 2 (by decide) ?_
  refine va_sld hx hb hX hbl hbA hS (vind (by decide)) dL_law_446 ?_
  refine lv_cst (xs 2) rfl ?_
  refine lv_aload_n hx hb dL_law_447 rfl (lv_at hl 4 rfl) ?_
  refine lv_iload hx hb dL_law_448 (lv_at hl 0 rfl) ?_
  refine lv_iconst (v := 3) hx hb dL_law_450 (by decide) ?_
  refine lv_iadd hx hb dL_law_451 ?_
  refine lv_cst 3 (by decide) ?_
  refine va_sld hx hb hX hbl hbA hS (vind (by decide)) dL_law_452 ?_
  refine lv_cst (xs 3) rfl ?_
  refine lv_aload_n hx hb dL_law_453 rfl (lv_at hl 4 rfl) ?_
  refine lv_iload hx hb dL_law_454 (lv_at hl 0 rfl) ?_
  refine lv_iconst (v := 4) hx hb dL_law_456 (by decide) ?_
  refine lv_iadd hx hb dL_law_457 ?_
  refine lv_cst 4 (by decide) ?_
  refine va_sld hx hb hX hbl hbA hS (vind (by decide)) dL_law_458 ?_
  refine lv_cst (xs 4) rfl ?_
  refine lv_aload_n hx hb dL_law_459 rfl (lv_at hl 4 rfl) ?_
  refine lv_iload hx hb dL_law_460 (lv_at hl 0 rfl) ?_
  refine lv_iconst (v := 5) hx hb dL_law_462 (by decide) ?_
  refine lv_iadd hx hb dL_law_463 ?_
  refine lv_cst 5 (by decide) ?_
  refine va_sld hx hb hX hbl hbA hS (vind (by decide)) dL_law_464 ?_
  refine lv_cst (xs 5) rfl ?_
  refine cl_i (wr := [(mc0 cy mh mq), (mc19 cy mh mq)]) (va_runV (As := [.int (xs 1), .int (xs 2), .int (xs 3), .int (xs 4), .int (xs 5)]) (rest := []) ⟨hx, hb, hml, hown, hts⟩ (c_feed l D cy xh xq (xs 1) (xs 2) (xs 3) (xs 4) (xs 5) _) (cwV 5 hts gL_law_X11_feed rfl rfl rfl (by decide +kernel) ⟨(Nat.le_of_ble_eq_true rfl), (Nat.le_of_ble_eq_true rfl)⟩) (pre_V hKX hP hD (ci := 11) (q0 := 0) rfl rfl [0, 1, 2, 3] rfl (by decide) rfl) rfl rfl hl.1 rfl (lv_room (Nat.le_of_ble_eq_true rfl)) dL_law_465 ⟨(Nat.le_of_ble_eq_true rfl), (Nat.le_of_ble_eq_true rfl)⟩) hP hD hS hA [0, 1, 2, 3] [4, 5] rfl rfl (by decide) (by decide) (fun u1 H locs _ hP hD hS => ?_)
  have hP : va_P D vwCl [(mc0 cy mh mq), (mc19 cy mh mq)] H := hP
  have hD : va_D A [(mc0 cy mh mq), (mc19 cy mh mq)] := hD
  refine lv_aload_n hx hb dL_law_468 rfl (lv_at hl 2 rfl) ?_
  refine lv_aload_n hx hb dL_law_469 rfl (lv_at hl 4 rfl) ?_
  refine lv_iload hx hb dL_law_470 (lv_at hl 0 rfl) ?_
  refine lv_iconst (v := 1) hx hb dL_law_472 (by decide) ?_
  refine lv_iadd hx hb dL_law_473 ?_
  refine lv_cst 1 (by decide) ?_
  refine va_sld hx hb hX hbl hbA hS (vind (by decide)) dL_law_474 ?_
  refine lv_cst (xs 1) rfl ?_
  refine lv_aload_n hx hb dL_law_475 rfl (lv_at hl 4 rfl) ?_
  refine lv_iload hx hb dL_law_476 (lv_at hl 0 rfl) ?_
  refine lv_iconst (v := 2) hx hb dL_law_478 (by decide) ?_
  refine lv_iadd hx hb dL_law_479 ?_
  refine lv_cst 2 (by decide) ?_
  refine va_sld hx hb hX hbl hbA hS (vind (by decide)) dL_law_480 ?_
  refine lv_cst (xs 2) rfl ?_
  refine lv_aload_n hx hb dL_law_481 rfl (lv_at hl 4 rfl) ?_
  refine lv_iload hx hb dL_law_482 (lv_at hl 0 rfl) ?_
  refine lv_iconst (v := 3) hx hb dL_law_484 (by decide) ?_
  refine lv_iadd hx hb dL_law_485 ?_
  refine lv_cst 3 (by decide) ?_
  refine va_sld hx hb hX hbl hbA hS (vind (by decide)) dL_law_486 ?_
  refine lv_cst (xs 3) rfl ?_
  refine lv_aload_n hx hb dL_law_487 rfl (lv_at hl 4 rfl) ?_
  refine lv_iload hx hb dL_law_488 (lv_at hl 0 rfl) ?_
  refine lv_iconst (v := 4) hx hb dL_law_490 (by decide) ?_
  refine lv_iadd hx hb dL_law_491 ?_
  refine lv_cst 4 (by decide) ?_
  refine va_sld hx hb hX hbl hbA hS (vind (by decide)) dL_law_492 ?_
  refine lv_cst (xs 4) rfl ?_
  refine lv_aload_n hx hb dL_law_493 rfl (lv_at hl 4 rfl) ?_
  refine lv_iload hx hb dL_law_494 (lv_at hl 0 rfl) ?_
  refine lv_iconst (v := 5) hx hb dL_law_496 (by decide) ?_
  refine lv_iadd hx hb dL_law_497 ?_
  refine lv_cst 5 (by decide) ?_
  refine va_sld hx hb hX hbl hbA hS (vind (by decide)) dL_law_498 ?_
  refine lv_cst (xs 5) rfl ?_
  refine cl_i (wr := []) (va_runV (As := [.int (xs 1), .int (xs 2), .int (xs 3), .int (xs 4), .int (xs 5)]) (rest := [.int 20]) ⟨hx, hb, hml, hown, hts⟩ (m_feed l D cy mh mq (xs 1) (xs 2) (xs 3) (xs 4) (xs 5) _) (cwV 5 hts gL_law_X12_feed rfl rfl rfl (by decide +kernel) ⟨(Nat.le_of_ble_eq_true rfl), (Nat.le_of_ble_eq_true rfl)⟩) (pre_V hKX hP hD (ci := 12) (q0 := 0) rfl rfl [0, 1] rfl (by decide) rfl) rfl rfl hl.1 rfl (lv_room (Nat.le_of_ble_eq_true rfl)) dL_law_499 ⟨(Nat.le_of_ble_eq_true rfl), (Nat.le_of_ble_eq_true rfl)⟩) hP hD hS hA [0, 1] [] rfl rfl (by decide) (by decide) (fun u2 H locs _ hP hD hS => ?_)
  have hP : va_P D vwCl [] H := hP
  have hD : va_D A [] := hD
  refine lv_icmp_eq (tgt := 1049) hx hb dL_law_502 (by decide) (fun _ => ?_) (fun c9 => absurd (by decide) c9)
  exact law_tail C1 (Nat.le_of_ble_eq_true rfl) (Nat.le_of_ble_eq_true rfl) hS (lv_sub hl [0, 4] rfl)
set_option maxHeartbeats 4000000 in
set_option maxRecDepth 100000 in
/-- end on new objects -/
theorem law_end {p : Program} {l : Launch} {e : Env} {s : State} {m : MethodId} {below : List Frame} {meth : Method} {c : Code} {b : Nat} {xs : Nat → Int32} {D : va_G} {cy : Nat → ClassId} {tS sa sb : Nat} {A : Nat → Prop} (C1 : lw_Al p l s m meth c b xs D cy tS sa sb A) {xh : Nat} {xq : Nat → Nat} {mh : Nat} {mq : Nat → Nat} {oa : Nat} {H : Heap} {locs : List Loc} {ls : Array Slot} (hP : va_P D vwCl [(xc0 cy xh xq), (xc40 cy xh xq), (xc41 cy xh xq), (mc0 cy mh mq)] H) (hD : va_D A [(xc0 cy xh xq), (xc40 cy xh xq), (xc41 cy xh xq), (mc0 cy mh mq)]) (hS : va_S A s.heap H locs) (hl : lv_has ls 7 [(4, .int 0), (3, .ref oa), (2, .ref mh), (1, .ref xh), (0, .ref b)]) : W p l e room_1 s m #[Value.ref b] below meth c H locs 79 34218 (lw_Z below #[Value.ref b] s) (F0 m 507 ls []) := by
  obtain ⟨hx, hb, hr, hml, hown, hts, hX, hbl, hlocks, hbA, hA, hA2, hKX, hSF, hET, hl0⟩ := id C1
  refine lv_aload_n hx hb dL_law_507 rfl (lv_at hl 3 rfl) ?_
  refine lv_aload_n hx hb dL_law_508 rfl (lv_at hl 4 rfl) ?_
  refine lv_iload hx hb dL_law_509 (lv_at hl 0 rfl) ?_
  refine lv_iconst (v := 1) hx hb dL_law_511 (by decide) ?_
  refine lv_iadd hx hb dL_law_512 ?_
  refine lv_cst 1 (by decide) ?_
  refine va_sld hx hb hX hbl hbA hS (vind (by decide)) dL_law_513 ?_
  refine lv_cst (xs 1) rfl ?_
  refine cl_i (wr := [(mc0 cy mh mq)]) (va_runV (As := [.int (xs 1)]) (rest := []) ⟨hx, hb, hml, hown, hts⟩ (c_end l D cy xh xq (xs 1) _) (cwV 1 hts gL_law_X11_end rfl rfl rfl (by decide +kernel) ⟨(Nat.le_of_ble_eq_true rfl), (Nat.le_of_ble_eq_true rfl)⟩) (pre_V hKX hP hD (ci := 11) (q0 := 0) rfl rfl [0, 1, 2] rfl (by decide) rfl) rfl rfl hl.1 rfl (lv_room (Nat.le_of_ble_eq_true rfl)) dL_law_514 ⟨(Nat.le_of_ble_eq_true rfl), (Nat.le_of_ble_eq_true rfl)⟩) hP hD hS hA [0, 1, 2] [3] rfl rfl (by decide) (by decide) (fun u1 H locs _ hP hD hS => ?_)
  have hP : va_P D vwCl [(mc0 cy mh mq)] H := hP
  have hD : va_D A [(mc0 cy mh mq)] := hD
  refine lv_aload_n hx hb dL_law_517 rfl (lv_at hl 2 rfl) ?_
  refine lv_aload_n hx hb dL_law_518 rfl (lv_at hl 4 rfl) ?_
  refine lv_iload hx hb dL_law_519 (lv_at hl 0 rfl) ?_
  refine lv_iconst (v := 1) hx hb dL_law_521 (by decide) ?_
  refine lv_iadd hx hb dL_law_522 ?_
  refine lv_cst 1 (by decide) ?_
  refine va_sld hx hb hX hbl hbA hS (vind (by decide)) dL_law_523 ?_
  refine lv_cst (xs 1) rfl ?_
  refine cl_i (wr := []) (va_runV (As := [.int (xs 1)]) (rest := [.int (fEnd (xs 1))]) ⟨hx, hb, hml, hown, hts⟩ (m_end l D cy mh mq (xs 1) _) (cwV 1 hts gL_law_X12_end rfl rfl rfl (by decide +kernel) ⟨(Nat.le_of_ble_eq_true rfl), (Nat.le_of_ble_eq_true rfl)⟩) (pre_V hKX hP hD (ci := 12) (q0 := 0) rfl rfl [0] rfl (by decide) rfl) rfl rfl hl.1 rfl (lv_room (Nat.le_of_ble_eq_true rfl)) dL_law_524 ⟨(Nat.le_of_ble_eq_true rfl), (Nat.le_of_ble_eq_true rfl)⟩) hP hD hS hA [0] [] rfl rfl (by decide) (by decide) (fun u2 H locs _ hP hD hS => ?_)
  have hP : va_P D vwCl [] H := hP
  have hD : va_D A [] := hD
  refine lv_icmp_eq (tgt := 1049) hx hb dL_law_527 (by decide) (fun _ => ?_) (fun c9 => absurd rfl c9)
  exact law_tail C1 (Nat.le_of_ble_eq_true rfl) (Nat.le_of_ble_eq_true rfl) hS (lv_sub hl [0, 4] rfl)
set_option maxHeartbeats 4000000 in
set_option maxRecDepth 100000 in
/-- agree on new objects -/
theorem law_agree {p : Program} {l : Launch} {e : Env} {s : State} {m : MethodId} {below : List Frame} {meth : Method} {c : Code} {b : Nat} {xs : Nat → Int32} {D : va_G} {cy : Nat → ClassId} {tS sa sb : Nat} {A : Nat → Prop} (C1 : lw_Al p l s m meth c b xs D cy tS sa sb A) {xh : Nat} {xq : Nat → Nat} {mh : Nat} {mq : Nat → Nat} {oa : Nat} {H : Heap} {locs : List Loc} {ls : Array Slot} (hP : va_P D vwCl [(xc0 cy xh xq), (xc40 cy xh xq), (xc41 cy xh xq), (xc43 cy xh xq), (xc44 cy xh xq), (xc45 cy xh xq), (xc46 cy xh xq), (mc0 cy mh mq), (mc16 cy mh mq), (mc17 cy mh mq), (mc18 cy mh mq), (mc15 cy mh mq)] H) (hD : va_D A [(xc0 cy xh xq), (xc40 cy xh xq), (xc41 cy xh xq), (xc43 cy xh xq), (xc44 cy xh xq), (xc45 cy xh xq), (xc46 cy xh xq), (mc0 cy mh mq), (mc16 cy mh mq), (mc17 cy mh mq), (mc18 cy mh mq), (mc15 cy mh mq)]) (hS : va_S A s.heap H locs) (hl : lv_has ls 7 [(4, .int 0), (3, .ref oa), (2, .ref mh), (1, .ref xh), (0, .ref b)]) : W p l e room_1 s m #[Value.ref b] below meth c H locs 79 34218 (lw_Z below #[Value.ref b] s) (F0 m 532 ls []) := by
  obtain ⟨hx, hb, hr, hml, hown, hts, hX, hbl, hlocks, hbA, hA, hA2, hKX, hSF, hET, hl0⟩ := id C1
  refine lv_aload_n hx hb dL_law_532 rfl (lv_at hl 3 rfl) ?_
  refine lv_aload_n hx hb dL_law_533 rfl (lv_at hl 4 rfl) ?_
  refine lv_iload hx hb dL_law_534 (lv_at hl 0 rfl) ?_
  refine lv_iconst (v := 1) hx hb dL_law_536 (by decide) ?_
  refine lv_iadd hx hb dL_law_537 ?_
  refine lv_cst 1 (by decide) ?_
  refine va_sld hx hb hX hbl hbA hS (vind (by decide)) dL_law_538 ?_
  refine lv_cst (xs 1) rfl ?_
  refine cl_i (wr := [(mc0 cy mh mq), (mc16 cy mh mq), (mc17 cy mh mq), (mc18 cy mh mq), (mc15 cy mh mq)]) (va_runV (As := [.int (xs 1)]) (rest := []) ⟨hx, hb, hml, hown, hts⟩ (c_agree l D cy xh xq (xs 1) _) (cwV 1 hts gL_law_X11_agree rfl rfl rfl (by decide +kernel) ⟨(Nat.le_of_ble_eq_true rfl), (Nat.le_of_ble_eq_true rfl)⟩) (pre_V hKX hP hD (ci := 11) (q0 := 0) rfl rfl [0, 1, 2, 3, 4, 5, 6] rfl (by decide) rfl) rfl rfl hl.1 rfl (lv_room (Nat.le_of_ble_eq_true rfl)) dL_law_539 ⟨(Nat.le_of_ble_eq_true rfl), (Nat.le_of_ble_eq_true rfl)⟩) hP hD hS hA [0, 1, 2, 3, 4, 5, 6] [7, 8, 9, 10, 11] rfl rfl (by decide) (by decide) (fun u1 H locs _ hP hD hS => ?_)
  have hP : va_P D vwCl [(mc0 cy mh mq), (mc16 cy mh mq), (mc17 cy mh mq), (mc18 cy mh mq), (mc15 cy mh mq)] H := hP
  have hD : va_D A [(mc0 cy mh mq), (mc16 cy mh mq), (mc17 cy mh mq), (mc18 cy mh mq), (mc15 cy mh mq)] := hD
  refine lv_aload_n hx hb dL_law_542 rfl (lv_at hl 2 rfl) ?_
  refine lv_aload_n hx hb dL_law_543 rfl (lv_at hl 4 rfl) ?_
  refine lv_iload hx hb dL_law_544 (lv_at hl 0 rfl) ?_
  refine lv_iconst (v := 1) hx hb dL_law_546 (by decide) ?_
  refine lv_iadd hx hb dL_law_547 ?_
  refine lv_cst 1 (by decide) ?_
  refine va_sld hx hb hX hbl hbA hS (vind (by decide)) dL_law_548 ?_
  refine lv_cst (xs 1) rfl ?_
  refine cl_i (wr := []) (va_runV (As := [.int (xs 1)]) (rest := [.int (fAgree (xs 1))]) ⟨hx, hb, hml, hown, hts⟩ (m_agree l D cy mh mq (xs 1) _) (cwV 1 hts gL_law_X12_agree rfl rfl rfl (by decide +kernel) ⟨(Nat.le_of_ble_eq_true rfl), (Nat.le_of_ble_eq_true rfl)⟩) (pre_V hKX hP hD (ci := 12) (q0 := 0) rfl rfl [0, 1, 2, 3, 4] rfl (by decide) rfl) rfl rfl hl.1 rfl (lv_room (Nat.le_of_ble_eq_true rfl)) dL_law_549 ⟨(Nat.le_of_ble_eq_true rfl), (Nat.le_of_ble_eq_true rfl)⟩) hP hD hS hA [0, 1, 2, 3, 4] [] rfl rfl (by decide) (by decide) (fun u2 H locs _ hP hD hS => ?_)
  have hP : va_P D vwCl [] H := hP
  have hD : va_D A [] := hD
  refine lv_icmp_eq (tgt := 1049) hx hb dL_law_552 (by decide) (fun _ => ?_) (fun c9 => absurd rfl c9)
  exact law_tail C1 (Nat.le_of_ble_eq_true rfl) (Nat.le_of_ble_eq_true rfl) hS (lv_sub hl [0, 4] rfl)
set_option maxHeartbeats 4000000 in
set_option maxRecDepth 100000 in
/-- place on new objects -/
theorem law_place {p : Program} {l : Launch} {e : Env} {s : State} {m : MethodId} {below : List Frame} {meth : Method} {c : Code} {b : Nat} {xs : Nat → Int32} {D : va_G} {cy : Nat → ClassId} {tS sa sb : Nat} {A : Nat → Prop} (C1 : lw_Al p l s m meth c b xs D cy tS sa sb A) {xh : Nat} {xq : Nat → Nat} {mh : Nat} {mq : Nat → Nat} {oa : Nat} {H : Heap} {locs : List Loc} {ls : Array Slot} (hP : va_P D vwCl [(xc0 cy xh xq), (xc40 cy xh xq), (mc0 cy mh mq)] H) (hD : va_D A [(xc0 cy xh xq), (xc40 cy xh xq), (mc0 cy mh mq)]) (hS : va_S A s.heap H locs) (hl : lv_has ls 7 [(4, .int 0), (3, .ref oa), (2, .ref mh), (1, .ref xh), (0, .ref b)]) : W p l e room_1 s m #[Value.ref b] below meth c H locs 79 34218 (lw_Z below #[Value.ref b] s) (F0 m 557 ls []) := by
  obtain ⟨hx, hb, hr, hml, hown, hts, hX, hbl, hlocks, hbA, hA, hA2, hKX, hSF, hET, hl0⟩ := id C1
  refine lv_aload_n hx hb dL_law_557 rfl (lv_at hl 3 rfl) ?_
  refine cl_i (wr := [(mc0 cy mh mq)]) (va_runV (As := []) (rest := []) ⟨hx, hb, hml, hown, hts⟩ (c_place l D cy xh xq _) (cwV 0 hts gL_law_X11_place rfl rfl rfl (by decide +kernel) ⟨(Nat.le_of_ble_eq_true rfl), (Nat.le_of_ble_eq_true rfl)⟩) (pre_V hKX hP hD (ci := 11) (q0 := 0) rfl rfl [0, 1] rfl (by decide) rfl) rfl rfl hl.1 rfl (lv_room (Nat.le_of_ble_eq_true rfl)) dL_law_558 ⟨(Nat.le_of_ble_eq_true rfl), (Nat.le_of_ble_eq_true rfl)⟩) hP hD hS hA [0, 1] [2] rfl rfl (by decide) (by decide) (fun u1 H locs _ hP hD hS => ?_)
  have hP : va_P D vwCl [(mc0 cy mh mq)] H := hP
  have hD : va_D A [(mc0 cy mh mq)] := hD
  refine lv_aload_n hx hb dL_law_561 rfl (lv_at hl 2 rfl) ?_
  refine cl_i (wr := []) (va_runV (As := []) (rest := [.int (-1)]) ⟨hx, hb, hml, hown, hts⟩ (m_place l D cy mh mq _) (cwV 0 hts gL_law_X12_place rfl rfl rfl (by decide +kernel) ⟨(Nat.le_of_ble_eq_true rfl), (Nat.le_of_ble_eq_true rfl)⟩) (pre_V hKX hP hD (ci := 12) (q0 := 0) rfl rfl [0] rfl (by decide) rfl) rfl rfl hl.1 rfl (lv_room (Nat.le_of_ble_eq_true rfl)) dL_law_562 ⟨(Nat.le_of_ble_eq_true rfl), (Nat.le_of_ble_eq_true rfl)⟩) hP hD hS hA [0] [] rfl rfl (by decide) (by decide) (fun u2 H locs _ hP hD hS => ?_)
  have hP : va_P D vwCl [] H := hP
  have hD : va_D A [] := hD
  refine lv_icmp_eq (tgt := 1049) hx hb dL_law_565 (by decide) (fun _ => ?_) (fun c9 => absurd (by decide) c9)
  exact law_tail C1 (Nat.le_of_ble_eq_true rfl) (Nat.le_of_ble_eq_true rfl) hS (lv_sub hl [0, 4] rfl)
set_option maxHeartbeats 4000000 in
set_option maxRecDepth 100000 in
/-- on on new objects -/
theorem law_on {p : Program} {l : Launch} {e : Env} {s : State} {m : MethodId} {below : List Frame} {meth : Method} {c : Code} {b : Nat} {xs : Nat → Int32} {D : va_G} {cy : Nat → ClassId} {tS sa sb : Nat} {A : Nat → Prop} (C1 : lw_Al p l s m meth c b xs D cy tS sa sb A) {xh : Nat} {xq : Nat → Nat} {mh : Nat} {mq : Nat → Nat} {oa : Nat} {H : Heap} {locs : List Loc} {ls : Array Slot} (hP : va_P D vwCl [(xc0 cy xh xq), (xc1 cy xh xq), (xc2 cy xh xq), (xc3 cy xh xq), (xc4 cy xh xq), (xc6 cy xh xq), (xc8 cy xh xq), (mc0 cy mh mq), (mc11 cy mh mq)] H) (hD : va_D A [(xc0 cy xh xq), (xc1 cy xh xq), (xc2 cy xh xq), (xc3 cy xh xq), (xc4 cy xh xq), (xc6 cy xh xq), (xc8 cy xh xq), (mc0 cy mh mq), (mc11 cy mh mq)]) (hS : va_S A s.heap H locs) (hl : lv_has ls 7 [(4, .int 0), (3, .ref oa), (2, .ref mh), (1, .ref xh), (0, .ref b)]) : W p l e room_1 s m #[Value.ref b] below meth c H locs 79 34218 (lw_Z below #[Value.ref b] s) (F0 m 570 ls []) := by
  obtain ⟨hx, hb, hr, hml, hown, hts, hX, hbl, hlocks, hbA, hA, hA2, hKX, hSF, hET, hl0⟩ := id C1
  refine lv_aload_n hx hb dL_law_570 rfl (lv_at hl 3 rfl) ?_
  refine lv_aload_n hx hb dL_law_571 rfl (lv_at hl 4 rfl) ?_
  refine lv_iload hx hb dL_law_572 (lv_at hl 0 rfl) ?_
  refine lv_iconst (v := 1) hx hb dL_law_574 (by decide) ?_
  refine lv_iadd hx hb dL_law_575 ?_
  refine lv_cst 1 (by decide) ?_
  refine va_sld hx hb hX hbl hbA hS (vind (by decide)) dL_law_576 ?_
  refine lv_cst (xs 1) rfl ?_
  refine lv_aload_n hx hb dL_law_577 rfl (lv_at hl 4 rfl) ?_
  refine lv_iload hx hb dL_law_578 (lv_at hl 0 rfl) ?_
  refine lv_iconst (v := 2) hx hb dL_law_580 (by decide) ?_
  refine lv_iadd hx hb dL_law_581 ?_
  refine lv_cst 2 (by decide) ?_
  refine va_sld hx hb hX hbl hbA hS (vind (by decide)) dL_law_582 ?_
  refine lv_cst (xs 2) rfl ?_
  refine cl_i (wr := [(mc0 cy mh mq), (mc11 cy mh mq)]) (va_runV (As := [.int (xs 1), .int (xs 2)]) (rest := []) ⟨hx, hb, hml, hown, hts⟩ (c_on l D cy xh xq (xs 1) (xs 2) _) (cwV 2 hts gL_law_X11_on rfl rfl rfl (by decide +kernel) ⟨(Nat.le_of_ble_eq_true rfl), (Nat.le_of_ble_eq_true rfl)⟩) (pre_V hKX hP hD (ci := 11) (q0 := 0) rfl rfl [0, 1, 2, 3, 4, 5, 6] rfl (by decide) rfl) rfl rfl hl.1 rfl (lv_room (Nat.le_of_ble_eq_true rfl)) dL_law_583 ⟨(Nat.le_of_ble_eq_true rfl), (Nat.le_of_ble_eq_true rfl)⟩) hP hD hS hA [0, 1, 2, 3, 4, 5, 6] [7, 8] rfl rfl (by decide) (by decide) (fun u1 H locs _ hP hD hS => ?_)
  have hP : va_P D vwCl [(mc0 cy mh mq), (mc11 cy mh mq)] H := hP
  have hD : va_D A [(mc0 cy mh mq), (mc11 cy mh mq)] := hD
  refine lv_aload_n hx hb dL_law_586 rfl (lv_at hl 2 rfl) ?_
  refine lv_aload_n hx hb dL_law_587 rfl (lv_at hl 4 rfl) ?_
  refine lv_iload hx hb dL_law_588 (lv_at hl 0 rfl) ?_
  refine lv_iconst (v := 1) hx hb dL_law_590 (by decide) ?_
  refine lv_iadd hx hb dL_law_591 ?_
  refine lv_cst 1 (by decide) ?_
  refine va_sld hx hb hX hbl hbA hS (vind (by decide)) dL_law_592 ?_
  refine lv_cst (xs 1) rfl ?_
  refine lv_aload_n hx hb dL_law_593 rfl (lv_at hl 4 rfl) ?_
  refine lv_iload hx hb dL_law_594 (lv_at hl 0 rfl) ?_
  refine lv_iconst (v := 2) hx hb dL_law_596 (by decide) ?_
  refine lv_iadd hx hb dL_law_597 ?_
  refine lv_cst 2 (by decide) ?_
  refine va_sld hx hb hX hbl hbA hS (vind (by decide)) dL_law_598 ?_
  refine lv_cst (xs 2) rfl ?_
  refine cl_i (wr := []) (va_runV (As := [.int (xs 1), .int (xs 2)]) (rest := [.int (-1)]) ⟨hx, hb, hml, hown, hts⟩ (m_on l D cy mh mq (xs 1) (xs 2) _) (cwV 2 hts gL_law_X12_on rfl rfl rfl (by decide +kernel) ⟨(Nat.le_of_ble_eq_true rfl), (Nat.le_of_ble_eq_true rfl)⟩) (pre_V hKX hP hD (ci := 12) (q0 := 0) rfl rfl [0, 1] rfl (by decide) rfl) rfl rfl hl.1 rfl (lv_room (Nat.le_of_ble_eq_true rfl)) dL_law_599 ⟨(Nat.le_of_ble_eq_true rfl), (Nat.le_of_ble_eq_true rfl)⟩) hP hD hS hA [0, 1] [] rfl rfl (by decide) (by decide) (fun u2 H locs _ hP hD hS => ?_)
  have hP : va_P D vwCl [] H := hP
  have hD : va_D A [] := hD
  refine lv_icmp_eq (tgt := 1049) hx hb dL_law_602 (by decide) (fun _ => ?_) (fun c9 => absurd (by decide) c9)
  exact law_tail C1 (Nat.le_of_ble_eq_true rfl) (Nat.le_of_ble_eq_true rfl) hS (lv_sub hl [0, 4] rfl)
set_option maxHeartbeats 4000000 in
set_option maxRecDepth 100000 in
/-- off on new objects -/
theorem law_off {p : Program} {l : Launch} {e : Env} {s : State} {m : MethodId} {below : List Frame} {meth : Method} {c : Code} {b : Nat} {xs : Nat → Int32} {D : va_G} {cy : Nat → ClassId} {tS sa sb : Nat} {A : Nat → Prop} (C1 : lw_Al p l s m meth c b xs D cy tS sa sb A) {xh : Nat} {xq : Nat → Nat} {mh : Nat} {mq : Nat → Nat} {oa : Nat} {H : Heap} {locs : List Loc} {ls : Array Slot} (hP : va_P D vwCl [(xc0 cy xh xq), (xc24 cy xh xq), (xc25 cy xh xq), (xc26 cy xh xq), (xc28 cy xh xq), (xc30 cy xh xq), (xc32 cy xh xq), (mc0 cy mh mq), (mc11 cy mh mq)] H) (hD : va_D A [(xc0 cy xh xq), (xc24 cy xh xq), (xc25 cy xh xq), (xc26 cy xh xq), (xc28 cy xh xq), (xc30 cy xh xq), (xc32 cy xh xq), (mc0 cy mh mq), (mc11 cy mh mq)]) (hS : va_S A s.heap H locs) (hl : lv_has ls 7 [(4, .int 0), (3, .ref oa), (2, .ref mh), (1, .ref xh), (0, .ref b)]) : W p l e room_1 s m #[Value.ref b] below meth c H locs 79 34218 (lw_Z below #[Value.ref b] s) (F0 m 607 ls []) := by
  obtain ⟨hx, hb, hr, hml, hown, hts, hX, hbl, hlocks, hbA, hA, hA2, hKX, hSF, hET, hl0⟩ := id C1
  refine lv_aload_n hx hb dL_law_607 rfl (lv_at hl 3 rfl) ?_
  refine lv_aload_n hx hb dL_law_608 rfl (lv_at hl 4 rfl) ?_
  refine lv_iload hx hb dL_law_609 (lv_at hl 0 rfl) ?_
  refine lv_iconst (v := 1) hx hb dL_law_611 (by decide) ?_
  refine lv_iadd hx hb dL_law_612 ?_
  refine lv_cst 1 (by decide) ?_
  refine va_sld hx hb hX hbl hbA hS (vind (by decide)) dL_law_613 ?_
  refine lv_cst (xs 1) rfl ?_
  refine lv_aload_n hx hb dL_law_614 rfl (lv_at hl 4 rfl) ?_
  refine lv_iload hx hb dL_law_615 (lv_at hl 0 rfl) ?_
  refine lv_iconst (v := 2) hx hb dL_law_617 (by decide) ?_
  refine lv_iadd hx hb dL_law_618 ?_
  refine lv_cst 2 (by decide) ?_
  refine va_sld hx hb hX hbl hbA hS (vind (by decide)) dL_law_619 ?_
  refine lv_cst (xs 2) rfl ?_
  refine cl_i (wr := [(mc0 cy mh mq), (mc11 cy mh mq)]) (va_runV (As := [.int (xs 1), .int (xs 2)]) (rest := []) ⟨hx, hb, hml, hown, hts⟩ (c_off l D cy xh xq (xs 1) (xs 2) _) (cwV 2 hts gL_law_X11_off rfl rfl rfl (by decide +kernel) ⟨(Nat.le_of_ble_eq_true rfl), (Nat.le_of_ble_eq_true rfl)⟩) (pre_V hKX hP hD (ci := 11) (q0 := 0) rfl rfl [0, 1, 2, 3, 4, 5, 6] rfl (by decide) rfl) rfl rfl hl.1 rfl (lv_room (Nat.le_of_ble_eq_true rfl)) dL_law_620 ⟨(Nat.le_of_ble_eq_true rfl), (Nat.le_of_ble_eq_true rfl)⟩) hP hD hS hA [0, 1, 2, 3, 4, 5, 6] [7, 8] rfl rfl (by decide) (by decide) (fun u1 H locs _ hP hD hS => ?_)
  have hP : va_P D vwCl [(mc0 cy mh mq), (mc11 cy mh mq)] H := hP
  have hD : va_D A [(mc0 cy mh mq), (mc11 cy mh mq)] := hD
  refine lv_aload_n hx hb dL_law_623 rfl (lv_at hl 2 rfl) ?_
  refine lv_aload_n hx hb dL_law_624 rfl (lv_at hl 4 rfl) ?_
  refine lv_iload hx hb dL_law_625 (lv_at hl 0 rfl) ?_
  refine lv_iconst (v := 1) hx hb dL_law_627 (by decide) ?_
  refine lv_iadd hx hb dL_law_628 ?_
  refine lv_cst 1 (by decide) ?_
  refine va_sld hx hb hX hbl hbA hS (vind (by decide)) dL_law_629 ?_
  refine lv_cst (xs 1) rfl ?_
  refine lv_aload_n hx hb dL_law_630 rfl (lv_at hl 4 rfl) ?_
  refine lv_iload hx hb dL_law_631 (lv_at hl 0 rfl) ?_
  refine lv_iconst (v := 2) hx hb dL_law_633 (by decide) ?_
  refine lv_iadd hx hb dL_law_634 ?_
  refine lv_cst 2 (by decide) ?_
  refine va_sld hx hb hX hbl hbA hS (vind (by decide)) dL_law_635 ?_
  refine lv_cst (xs 2) rfl ?_
  refine cl_i (wr := []) (va_runV (As := [.int (xs 1), .int (xs 2)]) (rest := [.int (-1)]) ⟨hx, hb, hml, hown, hts⟩ (m_off l D cy mh mq (xs 1) (xs 2) _) (cwV 2 hts gL_law_X12_off rfl rfl rfl (by decide +kernel) ⟨(Nat.le_of_ble_eq_true rfl), (Nat.le_of_ble_eq_true rfl)⟩) (pre_V hKX hP hD (ci := 12) (q0 := 0) rfl rfl [0, 1] rfl (by decide) rfl) rfl rfl hl.1 rfl (lv_room (Nat.le_of_ble_eq_true rfl)) dL_law_636 ⟨(Nat.le_of_ble_eq_true rfl), (Nat.le_of_ble_eq_true rfl)⟩) hP hD hS hA [0, 1] [] rfl rfl (by decide) (by decide) (fun u2 H locs _ hP hD hS => ?_)
  have hP : va_P D vwCl [] H := hP
  have hD : va_D A [] := hD
  refine lv_icmp_eq (tgt := 1049) hx hb dL_law_639 (by decide) (fun _ => ?_) (fun c9 => absurd (by decide) c9)
  exact law_tail C1 (Nat.le_of_ble_eq_true rfl) (Nat.le_of_ble_eq_true rfl) hS (lv_sub hl [0, 4] rfl)
set_option maxHeartbeats 4000000 in
set_option maxRecDepth 100000 in
/-- sail on new objects -/
theorem law_sail {p : Program} {l : Launch} {e : Env} {s : State} {m : MethodId} {below : List Frame} {meth : Method} {c : Code} {b : Nat} {xs : Nat → Int32} {D : va_G} {cy : Nat → ClassId} {tS sa sb : Nat} {A : Nat → Prop} (C1 : lw_Al p l s m meth c b xs D cy tS sa sb A) {xh : Nat} {xq : Nat → Nat} {mh : Nat} {mq : Nat → Nat} {oa : Nat} {H : Heap} {locs : List Loc} {ls : Array Slot} (hP : va_P D vwCl [(xc0 cy xh xq), (xc24 cy xh xq), (xc34 cy xh xq), (mc0 cy mh mq), (mc11 cy mh mq)] H) (hD : va_D A [(xc0 cy xh xq), (xc24 cy xh xq), (xc34 cy xh xq), (mc0 cy mh mq), (mc11 cy mh mq)]) (hS : va_S A s.heap H locs) (hl : lv_has ls 7 [(4, .int 0), (3, .ref oa), (2, .ref mh), (1, .ref xh), (0, .ref b)]) : W p l e room_1 s m #[Value.ref b] below meth c H locs 79 34218 (lw_Z below #[Value.ref b] s) (F0 m 644 ls []) := by
  obtain ⟨hx, hb, hr, hml, hown, hts, hX, hbl, hlocks, hbA, hA, hA2, hKX, hSF, hET, hl0⟩ := id C1
  refine lv_aload_n hx hb dL_law_644 rfl (lv_at hl 3 rfl) ?_
  refine cl_i (wr := [(mc0 cy mh mq), (mc11 cy mh mq)]) (va_runV (As := []) (rest := []) ⟨hx, hb, hml, hown, hts⟩ (c_sail l D cy xh xq _) (cwV 0 hts gL_law_X11_sail rfl rfl rfl (by decide +kernel) ⟨(Nat.le_of_ble_eq_true rfl), (Nat.le_of_ble_eq_true rfl)⟩) (pre_V hKX hP hD (ci := 11) (q0 := 0) rfl rfl [0, 1, 2] rfl (by decide) rfl) rfl rfl hl.1 rfl (lv_room (Nat.le_of_ble_eq_true rfl)) dL_law_645 ⟨(Nat.le_of_ble_eq_true rfl), (Nat.le_of_ble_eq_true rfl)⟩) hP hD hS hA [0, 1, 2] [3, 4] rfl rfl (by decide) (by decide) (fun u1 H locs _ hP hD hS => ?_)
  have hP : va_P D vwCl [(mc0 cy mh mq), (mc11 cy mh mq)] H := hP
  have hD : va_D A [(mc0 cy mh mq), (mc11 cy mh mq)] := hD
  refine lv_aload_n hx hb dL_law_648 rfl (lv_at hl 2 rfl) ?_
  refine cl_i (wr := []) (va_runV (As := []) (rest := [.int 10]) ⟨hx, hb, hml, hown, hts⟩ (m_sail l D cy mh mq _) (cwV 0 hts gL_law_X12_sail rfl rfl rfl (by decide +kernel) ⟨(Nat.le_of_ble_eq_true rfl), (Nat.le_of_ble_eq_true rfl)⟩) (pre_V hKX hP hD (ci := 12) (q0 := 0) rfl rfl [0, 1] rfl (by decide) rfl) rfl rfl hl.1 rfl (lv_room (Nat.le_of_ble_eq_true rfl)) dL_law_649 ⟨(Nat.le_of_ble_eq_true rfl), (Nat.le_of_ble_eq_true rfl)⟩) hP hD hS hA [0, 1] [] rfl rfl (by decide) (by decide) (fun u2 H locs _ hP hD hS => ?_)
  have hP : va_P D vwCl [] H := hP
  have hD : va_D A [] := hD
  refine lv_icmp_eq (tgt := 1049) hx hb dL_law_652 (by decide) (fun _ => ?_) (fun c9 => absurd (by decide) c9)
  exact law_tail C1 (Nat.le_of_ble_eq_true rfl) (Nat.le_of_ble_eq_true rfl) hS (lv_sub hl [0, 4] rfl)
