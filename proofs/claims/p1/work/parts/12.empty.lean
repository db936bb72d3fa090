theorem iw_X3_init_X3 : ∀ w ∈ wsX30, w ∈ wsX3_init := by decide +kernel
set_option maxHeartbeats 4000000 in
set_option maxRecDepth 100000 in
theorem c_ES_init (l : Launch) (D : va_G) (cy : Nat → ClassId) (h : Nat) (sz : Nat) : Met l yX3_init wsX3_init ({ frames := 1, cells := 4, slots := 14729, locals := 12 }) (wPre D cy [.ref h] sz [(h, .inr (3, [.int 0, .int 0, .null, .int 0, .null, .null, .null]))]) (wQv D (fun _ : (Nat → Nat) => True) (fun u : (Nat → Nat) => [(h, .inr (3, [.int (-1), .int 0, .ref (u 0), .int 0, .ref (u 1), .ref (u 2), .ref (u 3)])), ((u 0), .inl (cy 0, 40, .inl (fun _ => 0))), ((u 1), .inl (cy 0, 4, .inl (fun _ => 0))), ((u 2), .inl (cy 0, 44, .inl (fun _ => 0))), ((u 3), .inl (cy 0, 14641, .inl (fun _ => 0)))]) (va_A [(h, .inr (3, [.int 0, .int 0, .null, .int 0, .null, .null, .null]))] sz)) 4 14729 (va_A [(h, .inr (3, [.int 0, .int 0, .null, .int 0, .null, .null, .null]))] sz) := by
  refine met_go (y := yX3_init) (ws := wsX3_init) (av := [.ref h]) (cc := cX3_init) (maxL := 1) (ret := none) (Qc := fun A => wQv D (fun _ : (Nat → Nat) => True) (fun u : (Nat → Nat) => [(h, .inr (3, [.int (-1), .int 0, .ref (u 0), .int 0, .ref (u 1), .ref (u 2), .ref (u 3)])), ((u 0), .inl (cy 0, 40, .inl (fun _ => 0))), ((u 1), .inl (cy 0, 4, .inl (fun _ => 0))), ((u 2), .inl (cy 0, 44, .inl (fun _ => 0))), ((u 3), .inl (cy 0, 14641, .inl (fun _ => 0)))]) A) (by decide) rfl (Nat.le_of_ble_eq_true rfl) ?_
  intro p e s m below meth c ls A hx hb hr hml hown hts hlocks hname hKX hP hD hA hS hl
  have hown : s.vm.findClass RX3 = some m.cls := hown
  have hl : lv_has ls 1 [(0, .ref h)] := hl
  refine lv_aload_n hx hb dX3_init_0 rfl (lv_at hl 0 rfl) ?_
  refine W.objInit hx hb hown (hts (.methodLink RX3 3 objectInit) (by decide +kernel)) (hts (.instanceMethod objectInit) (by decide +kernel)) (hts (.code objectInit ⟨#[0xb1]⟩ 1 none) (by decide +kernel)) rfl (by rw [hml]; exact hl.1) rfl dX3_init_1 (Nat.le_of_ble_eq_true rfl) (Nat.le_of_ble_eq_true rfl) ?_
  refine W.eq (g2 := F0 m 4 ls []) rfl ?_
  refine lv_aload_n hx hb dX3_init_4 rfl (lv_at hl 0 rfl) ?_
  refine lv_iconst (v := (-1)) hx hb dX3_init_5 (by decide) ?_
  refine va_put (D := D) (ci := 3) (v := .int (-1)) (ty := .int) (C := RX3) (T := TX3) (N := 7) hx hb hts iw_X3_init_X3 tyX3 tyX3_ok nmX3 hown hKX.1 hP hD hS 0 rfl rfl 0 (by decide) (hts (.fieldLink RX3 9 "TrainFerry$EmptyingSearch" "worst" "I") (by decide +kernel)) (fun _ h9 => h9) rfl (by decide +kernel) rfl rfl (Nat.le_of_ble_eq_true rfl) dX3_init_6 (fun H locs hP hD hS => ?_)
  have hP : va_P D vwCl [(h, .inr (3, [.int (-1), .int 0, .null, .int 0, .null, .null, .null]))] H := hP
  have hD : va_D A [(h, .inr (3, [.int (-1), .int 0, .null, .int 0, .null, .null, .null]))] := hD
  refine lv_aload_n hx hb dX3_init_9 rfl (lv_at hl 0 rfl) ?_
  refine lv_iconst (v := 0) hx hb dX3_init_10 (by decide) ?_
  refine va_put (D := D) (ci := 3) (v := .int 0) (ty := .int) (C := RX3) (T := TX3) (N := 7) hx hb hts iw_X3_init_X3 tyX3 tyX3_ok nmX3 hown hKX.1 hP hD hS 0 rfl rfl 1 (by decide) (hts (.fieldLink RX3 15 "TrainFerry$EmptyingSearch" "stepsFound" "I") (by decide +kernel)) (fun _ h9 => h9) rfl (by decide +kernel) rfl rfl (Nat.le_of_ble_eq_true rfl) dX3_init_11 (fun H locs hP hD hS => ?_)
  have hP : va_P D vwCl [(h, .inr (3, [.int (-1), .int 0, .null, .int 0, .null, .null, .null]))] H := hP
  have hD : va_D A [(h, .inr (3, [.int (-1), .int 0, .null, .int 0, .null, .null, .null]))] := hD
  refine lv_aload_n hx hb dX3_init_14 rfl (lv_at hl 0 rfl) ?_
  refine lv_bipush (v := 40) hx hb dX3_init_15 (by decide) ?_
  refine nw_a (atype := .int) (a0 := (40, .inl (fun _ => 0))) hx hb (hts (.arrayClass .int) (by decide +kernel)) (ty := .int) rfl hKX hP hD hS hA 0 rfl (fun cA => (vp_cell_i cA 40 _).trans (congrArg (arrV cA 40) (funext fun _ => rfl))) (by decide) (by decide) (by decide +kernel) (Nat.le_of_ble_eq_true rfl) (Nat.le_of_ble_eq_true rfl) dX3_init_17 (fun q1 H hP hD hS => ?_)
  have hP : va_P D vwCl [(h, .inr (3, [.int (-1), .int 0, .null, .int 0, .null, .null, .null])), (q1, .inl (cy 0, 40, .inl (fun _ => 0)))] H := hP
  have hD : va_D A [(h, .inr (3, [.int (-1), .int 0, .null, .int 0, .null, .null, .null])), (q1, .inl (cy 0, 40, .inl (fun _ => 0)))] := hD
  refine va_putF (D := D) (ci := 3) (v := .ref q1) (ty := (tyX3 2)) (C := RX3) (T := TX3) (N := 7) hx hb hts iw_X3_init_X3 tyX3 tyX3_ok nmX3 hown hKX.1 hP hD hS 0 rfl rfl 2 (by decide) (hts (.fieldLink RX3 18 "TrainFerry$EmptyingSearch" "tracks" "[I") (by decide +kernel)) (fun _ h9 => h9) rfl hname rfl (by decide +kernel) rfl rfl (Nat.le_of_ble_eq_true rfl) dX3_init_19 (fun H locs hP hD hS => ?_)
  have hP : va_P D vwCl [(h, .inr (3, [.int (-1), .int 0, .ref q1, .int 0, .null, .null, .null])), (q1, .inl (cy 0, 40, .inl (fun _ => 0)))] H := hP
  have hD : va_D A [(h, .inr (3, [.int (-1), .int 0, .ref q1, .int 0, .null, .null, .null])), (q1, .inl (cy 0, 40, .inl (fun _ => 0)))] := hD
  refine lv_aload_n hx hb dX3_init_22 rfl (lv_at hl 0 rfl) ?_
  refine lv_iconst (v := 0) hx hb dX3_init_23 (by decide) ?_
  refine va_put (D := D) (ci := 3) (v := .int 0) (ty := .int) (C := RX3) (T := TX3) (N := 7) hx hb hts iw_X3_init_X3 tyX3 tyX3_ok nmX3 hown hKX.1 hP hD hS 0 rfl rfl 3 (by decide) (hts (.fieldLink RX3 22 "TrainFerry$EmptyingSearch" "limit" "I") (by decide +kernel)) (fun _ h9 => h9) rfl (by decide +kernel) rfl rfl (Nat.le_of_ble_eq_true rfl) dX3_init_24 (fun H locs hP hD hS => ?_)
  have hP : va_P D vwCl [(h, .inr (3, [.int (-1), .int 0, .ref q1, .int 0, .null, .null, .null])), (q1, .inl (cy 0, 40, .inl (fun _ => 0)))] H := hP
  have hD : va_D A [(h, .inr (3, [.int (-1), .int 0, .ref q1, .int 0, .null, .null, .null])), (q1, .inl (cy 0, 40, .inl (fun _ => 0)))] := hD
  refine lv_aload_n hx hb dX3_init_27 rfl (lv_at hl 0 rfl) ?_
  refine lv_iconst (v := 4) hx hb dX3_init_28 (by decide) ?_
  refine nw_a (atype := .int) (a0 := (4, .inl (fun _ => 0))) hx hb (hts (.arrayClass .int) (by decide +kernel)) (ty := .int) rfl hKX hP hD hS hA 0 rfl (fun cA => (vp_cell_i cA 4 _).trans (congrArg (arrV cA 4) (funext fun _ => rfl))) (by decide) (by decide) (by decide +kernel) (Nat.le_of_ble_eq_true rfl) (Nat.le_of_ble_eq_true rfl) dX3_init_29 (fun q2 H hP hD hS => ?_)
  have hP : va_P D vwCl [(h, .inr (3, [.int (-1), .int 0, .ref q1, .int 0, .null, .null, .null])), (q1, .inl (cy 0, 40, .inl (fun _ => 0))), (q2, .inl (cy 0, 4, .inl (fun _ => 0)))] H := hP
  have hD : va_D A [(h, .inr (3, [.int (-1), .int 0, .ref q1, .int 0, .null, .null, .null])), (q1, .inl (cy 0, 40, .inl (fun _ => 0))), (q2, .inl (cy 0, 4, .inl (fun _ => 0)))] := hD
  refine va_putF (D := D) (ci := 3) (v := .ref q2) (ty := (tyX3 4)) (C := RX3) (T := TX3) (N := 7) hx hb hts iw_X3_init_X3 tyX3 tyX3_ok nmX3 hown hKX.1 hP hD hS 0 rfl rfl 4 (by decide) (hts (.fieldLink RX3 25 "TrainFerry$EmptyingSearch" "left" "[I") (by decide +kernel)) (fun _ h9 => h9) rfl hname rfl (by decide +kernel) rfl rfl (Nat.le_of_ble_eq_true rfl) dX3_init_31 (fun H locs hP hD hS => ?_)
  have hP : va_P D vwCl [(h, .inr (3, [.int (-1), .int 0, .ref q1, .int 0, .ref q2, .null, .null])), (q1, .inl (cy 0, 40, .inl (fun _ => 0))), (q2, .inl (cy 0, 4, .inl (fun _ => 0)))] H := hP
  have hD : va_D A [(h, .inr (3, [.int (-1), .int 0, .ref q1, .int 0, .ref q2, .null, .null])), (q1, .inl (cy 0, 40, .inl (fun _ => 0))), (q2, .inl (cy 0, 4, .inl (fun _ => 0)))] := hD
  refine lv_aload_n hx hb dX3_init_34 rfl (lv_at hl 0 rfl) ?_
  refine lv_bipush (v := 44) hx hb dX3_init_35 (by decide) ?_
  refine nw_a (atype := .int) (a0 := (44, .inl (fun _ => 0))) hx hb (hts (.arrayClass .int) (by decide +kernel)) (ty := .int) rfl hKX hP hD hS hA 0 rfl (fun cA => (vp_cell_i cA 44 _).trans (congrArg (arrV cA 44) (funext fun _ => rfl))) (by decide) (by decide) (by decide +kernel) (Nat.le_of_ble_eq_true rfl) (Nat.le_of_ble_eq_true rfl) dX3_init_37 (fun q3 H hP hD hS => ?_)
  have hP : va_P D vwCl [(h, .inr (3, [.int (-1), .int 0, .ref q1, .int 0, .ref q2, .null, .null])), (q1, .inl (cy 0, 40, .inl (fun _ => 0))), (q2, .inl (cy 0, 4, .inl (fun _ => 0))), (q3, .inl (cy 0, 44, .inl (fun _ => 0)))] H := hP
  have hD : va_D A [(h, .inr (3, [.int (-1), .int 0, .ref q1, .int 0, .ref q2, .null, .null])), (q1, .inl (cy 0, 40, .inl (fun _ => 0))), (q2, .inl (cy 0, 4, .inl (fun _ => 0))), (q3, .inl (cy 0, 44, .inl (fun _ => 0)))] := hD
  refine va_putF (D := D) (ci := 3) (v := .ref q3) (ty := (tyX3 5)) (C := RX3) (T := TX3) (N := 7) hx hb hts iw_X3_init_X3 tyX3 tyX3_ok nmX3 hown hKX.1 hP hD hS 0 rfl rfl 5 (by decide) (hts (.fieldLink RX3 28 "TrainFerry$EmptyingSearch" "lists" "[I") (by decide +kernel)) (fun _ h9 => h9) rfl hname rfl (by decide +kernel) rfl rfl (Nat.le_of_ble_eq_true rfl) dX3_init_39 (fun H locs hP hD hS => ?_)
  have hP : va_P D vwCl [(h, .inr (3, [.int (-1), .int 0, .ref q1, .int 0, .ref q2, .ref q3, .null])), (q1, .inl (cy 0, 40, .inl (fun _ => 0))), (q2, .inl (cy 0, 4, .inl (fun _ => 0))), (q3, .inl (cy 0, 44, .inl (fun _ => 0)))] H := hP
  have hD : va_D A [(h, .inr (3, [.int (-1), .int 0, .ref q1, .int 0, .ref q2, .ref q3, .null])), (q1, .inl (cy 0, 40, .inl (fun _ => 0))), (q2, .inl (cy 0, 4, .inl (fun _ => 0))), (q3, .inl (cy 0, 44, .inl (fun _ => 0)))] := hD
  refine lv_aload_n hx hb dX3_init_42 rfl (lv_at hl 0 rfl) ?_
  refine lv_sipush (v := 14641) hx hb dX3_init_43 (by decide) ?_
  refine nw_a (atype := .int) (a0 := (14641, .inl (fun _ => 0))) hx hb (hts (.arrayClass .int) (by decide +kernel)) (ty := .int) rfl hKX hP hD hS hA 0 rfl (fun cA => (vp_cell_i cA 14641 _).trans (congrArg (arrV cA 14641) (funext fun _ => rfl))) (by decide) (by decide) (by decide +kernel) (Nat.le_of_ble_eq_true rfl) (Nat.le_of_ble_eq_true rfl) dX3_init_46 (fun q4 H hP hD hS => ?_)
  have hP : va_P D vwCl [(h, .inr (3, [.int (-1), .int 0, .ref q1, .int 0, .ref q2, .ref q3, .null])), (q1, .inl (cy 0, 40, .inl (fun _ => 0))), (q2, .inl (cy 0, 4, .inl (fun _ => 0))), (q3, .inl (cy 0, 44, .inl (fun _ => 0))), (q4, .inl (cy 0, 14641, .inl (fun _ => 0)))] H := hP
  have hD : va_D A [(h, .inr (3, [.int (-1), .int 0, .ref q1, .int 0, .ref q2, .ref q3, .null])), (q1, .inl (cy 0, 40, .inl (fun _ => 0))), (q2, .inl (cy 0, 4, .inl (fun _ => 0))), (q3, .inl (cy 0, 44, .inl (fun _ => 0))), (q4, .inl (cy 0, 14641, .inl (fun _ => 0)))] := hD
  refine va_putF (D := D) (ci := 3) (v := .ref q4) (ty := (tyX3 6)) (C := RX3) (T := TX3) (N := 7) hx hb hts iw_X3_init_X3 tyX3 tyX3_ok nmX3 hown hKX.1 hP hD hS 0 rfl rfl 6 (by decide) (hts (.fieldLink RX3 31 "TrainFerry$EmptyingSearch" "least" "[I") (by decide +kernel)) (fun _ h9 => h9) rfl hname rfl (by decide +kernel) rfl rfl (Nat.le_of_ble_eq_true rfl) dX3_init_48 (fun H locs hP hD hS => ?_)
  have hP : va_P D vwCl [(h, .inr (3, [.int (-1), .int 0, .ref q1, .int 0, .ref q2, .ref q3, .ref q4])), (q1, .inl (cy 0, 40, .inl (fun _ => 0))), (q2, .inl (cy 0, 4, .inl (fun _ => 0))), (q3, .inl (cy 0, 44, .inl (fun _ => 0))), (q4, .inl (cy 0, 14641, .inl (fun _ => 0)))] H := hP
  have hD : va_D A [(h, .inr (3, [.int (-1), .int 0, .ref q1, .int 0, .ref q2, .ref q3, .ref q4])), (q1, .inl (cy 0, 40, .inl (fun _ => 0))), (q2, .inl (cy 0, 4, .inl (fun _ => 0))), (q3, .inl (cy 0, 44, .inl (fun _ => 0))), (q4, .inl (cy 0, 14641, .inl (fun _ => 0)))] := hD
  exact en_v hx hb hr hlocks (lk [q1, q2, q3, q4]) trivial (hP.sub [0, 1, 2, 3, 4] rfl) (hD.sub [0, 1, 2, 3, 4] (by decide) rfl) hS (Nat.le_of_ble_eq_true rfl) (Nat.le_of_ble_eq_true rfl) dX3_init_51
theorem iw_X3_sumLists_X3 : ∀ w ∈ wsX30, w ∈ wsX3_sumLists := by decide +kernel
theorem iw_X3_sumLists_X5 : ∀ w ∈ wsX50, w ∈ wsX3_sumLists := by decide +kernel
set_option maxHeartbeats 4000000 in
set_option maxRecDepth 100000 in
theorem c_sumLists_0 (l : Launch) (D : va_G) (cy : Nat → ClassId) (h : Nat) (ta : Nat) (lf : Nat) (li : Nat) (le : Nat) (r : Nat) (w : Nat) (sz : Nat) : Met l yX3_sumLists wsX3_sumLists ({ frames := 0, cells := 0, slots := 0, locals := 0 }) (wPre D cy [.ref h, .int 0, .ref r] sz [(h, .inr (3, [.int (-1), .int 0, .ref ta, .int 200, .ref lf, .ref li, .ref le])), (li, .inl (cy 0, 44, .inl (fun _ => 0))), (r, .inr (5, [.ref w, .int 0, .int 0]))]) (wQv D (fun _ : Unit => True) (fun _u : Unit => [(h, .inr (3, [.int (-1), .int 0, .ref ta, .int 200, .ref lf, .ref li, .ref le])), (li, .inl (cy 0, 44, .inl (upd (fun _ => 0) 0 0))), (r, .inr (5, [.ref w, .int 0, .int 0]))]) (va_A [(h, .inr (3, [.int (-1), .int 0, .ref ta, .int 200, .ref lf, .ref li, .ref le])), (li, .inl (cy 0, 44, .inl (fun _ => 0))), (r, .inr (5, [.ref w, .int 0, .int 0]))] sz)) 0 0 (va_A [(h, .inr (3, [.int (-1), .int 0, .ref ta, .int 200, .ref lf, .ref li, .ref le])), (li, .inl (cy 0, 44, .inl (fun _ => 0))), (r, .inr (5, [.ref w, .int 0, .int 0]))] sz) := by
  refine met_go (y := yX3_sumLists) (ws := wsX3_sumLists) (av := [.ref h, .int 0, .ref r]) (cc := cX3_sumLists) (maxL := 6) (ret := none) (Qc := fun A => wQv D (fun _ : Unit => True) (fun _u : Unit => [(h, .inr (3, [.int (-1), .int 0, .ref ta, .int 200, .ref lf, .ref li, .ref le])), (li, .inl (cy 0, 44, .inl (upd (fun _ => 0) 0 0))), (r, .inr (5, [.ref w, .int 0, .int 0]))]) A) (by decide) rfl (Nat.le_of_ble_eq_true rfl) ?_
  intro p e s m below meth c ls A hx hb hr hml hown hts hlocks hname hKX hP hD hA hS hl
  have hown : s.vm.findClass RX3 = some m.cls := hown
  have hl : lv_has ls 6 [(0, .ref h), (1, .int 0), (2, .ref r)] := hl
  refine lv_iconst (v := 0) hx hb dX3_sumLists_0 (by decide) ?_
  refine lv_istore_n (lv' := [(3, .int 0), (0, .ref h), (1, .int 0), (2, .ref r)]) hx hb dX3_sumLists_1 rfl hl (by decide) rfl (fun ls hl => ?_)
  refine lv_aload_n hx hb dX3_sumLists_2 rfl (lv_at hl 1 rfl) ?_
  refine va_get (D := D) (ci := 3) (v := .ref li) (C := RX3) (T := TX3) (N := 7) hx hb hts iw_X3_sumLists_X3 hown hKX.1 hP 0 rfl rfl 5 (by decide) (hts (.fieldLink RX3 28 "TrainFerry$EmptyingSearch" "lists" "[I") (by decide +kernel)) (fun _ h9 => h9) rfl dX3_sumLists_3 ?_
  refine lv_iload_n hx hb dX3_sumLists_6 rfl (lv_at hl 2 rfl) ?_
  refine lv_bipush (v := 11) hx hb dX3_sumLists_7 (by decide) ?_
  refine lv_imul hx hb dX3_sumLists_9 ?_
  refine lv_cst 0 (by decide) ?_
  refine lv_iconst (v := 0) hx hb dX3_sumLists_10 (by decide) ?_
  refine va_iast hx hb hKX.1 hP hD hS 1 0 rfl rfl (vind (by decide)) dX3_sumLists_11 (fun H locs hP hD hS => ?_)
  have hP : va_P D vwCl [(h, .inr (3, [.int (-1), .int 0, .ref ta, .int 200, .ref lf, .ref li, .ref le])), (li, .inl (cy 0, 44, .inl (upd (fun _ => 0) 0 0))), (r, .inr (5, [.ref w, .int 0, .int 0]))] H := hP
  have hD : va_D A [(h, .inr (3, [.int (-1), .int 0, .ref ta, .int 200, .ref lf, .ref li, .ref le])), (li, .inl (cy 0, 44, .inl (upd (fun _ => 0) 0 0))), (r, .inr (5, [.ref w, .int 0, .int 0]))] := hD
  refine lv_iconst (v := 0) hx hb dX3_sumLists_12 (by decide) ?_
  refine lv_istore (lv' := [(4, .int 0), (3, .int 0), (0, .ref h), (1, .int 0), (2, .ref r)]) hx hb dX3_sumLists_13 hl (by decide) rfl (fun ls hl => ?_)
  refine lv_iload hx hb dX3_sumLists_15 (lv_at hl 0 rfl) ?_
  refine lv_aload_n hx hb dX3_sumLists_17 rfl (lv_at hl 4 rfl) ?_
  refine va_get (D := D) (ci := 5) (v := .int 0) (C := RX5) (T := TX5) (N := 3) hx hb hts iw_X3_sumLists_X5 hown hKX.1 hP 2 rfl rfl 1 (by decide) (hts (.fieldLink RX3 51 "TrainFerry$Row" "size" "I") (by decide +kernel)) (fun _ h9 => h9) rfl dX3_sumLists_18 ?_
  refine lv_icmp_ge (tgt := 83) hx hb dX3_sumLists_21 (by decide) (fun _ => ?_) (fun c9 => absurd (by decide) c9)
  exact en_v hx hb hr hlocks () trivial (hP.sub [0, 1, 2] rfl) (hD.sub [0, 1, 2] (by decide) rfl) hS (Nat.le_of_ble_eq_true rfl) (Nat.le_of_ble_eq_true rfl) dX3_sumLists_83
set_option maxHeartbeats 4000000 in
set_option maxRecDepth 100000 in
theorem c_sumLists_1 (l : Launch) (D : va_G) (cy : Nat → ClassId) (h : Nat) (ta : Nat) (lf : Nat) (li : Nat) (le : Nat) (r : Nat) (w : Nat) (sz : Nat) : Met l yX3_sumLists wsX3_sumLists ({ frames := 0, cells := 0, slots := 0, locals := 0 }) (wPre D cy [.ref h, .int 1, .ref r] sz [(h, .inr (3, [.int (-1), .int 0, .ref ta, .int 200, .ref lf, .ref li, .ref le])), (li, .inl (cy 0, 44, .inl (upd (fun _ => 0) 0 0))), (r, .inr (5, [.ref w, .int 0, .int 0]))]) (wQv D (fun _ : Unit => True) (fun _u : Unit => [(h, .inr (3, [.int (-1), .int 0, .ref ta, .int 200, .ref lf, .ref li, .ref le])), (li, .inl (cy 0, 44, .inl (upd (upd (fun _ => 0) 0 0) 11 0))), (r, .inr (5, [.ref w, .int 0, .int 0]))]) (va_A [(h, .inr (3, [.int (-1), .int 0, .ref ta, .int 200, .ref lf, .ref li, .ref le])), (li, .inl (cy 0, 44, .inl (upd (fun _ => 0) 0 0))), (r, .inr (5, [.ref w, .int 0, .int 0]))] sz)) 0 0 (va_A [(h, .inr (3, [.int (-1), .int 0, .ref ta, .int 200, .ref lf, .ref li, .ref le])), (li, .inl (cy 0, 44, .inl (upd (fun _ => 0) 0 0))), (r, .inr (5, [.ref w, .int 0, .int 0]))] sz) := by
  refine met_go (y := yX3_sumLists) (ws := wsX3_sumLists) (av := [.ref h, .int 1, .ref r]) (cc := cX3_sumLists) (maxL := 6) (ret := none) (Qc := fun A => wQv D (fun _ : Unit => True) (fun _u : Unit => [(h, .inr (3, [.int (-1), .int 0, .ref ta, .int 200, .ref lf, .ref li, .ref le])), (li, .inl (cy 0, 44, .inl (upd (upd (fun _ => 0) 0 0) 11 0))), (r, .inr (5, [.ref w, .int 0, .int 0]))]) A) (by decide) rfl (Nat.le_of_ble_eq_true rfl) ?_
  intro p e s m below meth c ls A hx hb hr hml hown hts hlocks hname hKX hP hD hA hS hl
  have hown : s.vm.findClass RX3 = some m.cls := hown
  have hl : lv_has ls 6 [(0, .ref h), (1, .int 1), (2, .ref r)] := hl
  refine lv_iconst (v := 0) hx hb dX3_sumLists_0 (by decide) ?_
  refine lv_istore_n (lv' := [(3, .int 0), (0, .ref h), (1, .int 1), (2, .ref r)]) hx hb dX3_sumLists_1 rfl hl (by decide) rfl (fun ls hl => ?_)
  refine lv_aload_n hx hb dX3_sumLists_2 rfl (lv_at hl 1 rfl) ?_
  refine va_get (D := D) (ci := 3) (v := .ref li) (C := RX3) (T := TX3) (N := 7) hx hb hts iw_X3_sumLists_X3 hown hKX.1 hP 0 rfl rfl 5 (by decide) (hts (.fieldLink RX3 28 "TrainFerry$EmptyingSearch" "lists" "[I") (by decide +kernel)) (fun _ h9 => h9) rfl dX3_sumLists_3 ?_
  refine lv_iload_n hx hb dX3_sumLists_6 rfl (lv_at hl 2 rfl) ?_
  refine lv_bipush (v := 11) hx hb dX3_sumLists_7 (by decide) ?_
  refine lv_imul hx hb dX3_sumLists_9 ?_
  refine lv_cst 11 (by decide) ?_
  refine lv_iconst (v := 0) hx hb dX3_sumLists_10 (by decide) ?_
  refine va_iast hx hb hKX.1 hP hD hS 1 0 rfl rfl (vind (by decide)) dX3_sumLists_11 (fun H locs hP hD hS => ?_)
  have hP : va_P D vwCl [(h, .inr (3, [.int (-1), .int 0, .ref ta, .int 200, .ref lf, .ref li, .ref le])), (li, .inl (cy 0, 44, .inl (upd (upd (fun _ => 0) 0 0) 11 0))), (r, .inr (5, [.ref w, .int 0, .int 0]))] H := hP
  have hD : va_D A [(h, .inr (3, [.int (-1), .int 0, .ref ta, .int 200, .ref lf, .ref li, .ref le])), (li, .inl (cy 0, 44, .inl (upd (upd (fun _ => 0) 0 0) 11 0))), (r, .inr (5, [.ref w, .int 0, .int 0]))] := hD
  refine lv_iconst (v := 0) hx hb dX3_sumLists_12 (by decide) ?_
  refine lv_istore (lv' := [(4, .int 0), (3, .int 0), (0, .ref h), (1, .int 1), (2, .ref r)]) hx hb dX3_sumLists_13 hl (by decide) rfl (fun ls hl => ?_)
  refine lv_iload hx hb dX3_sumLists_15 (lv_at hl 0 rfl) ?_
  refine lv_aload_n hx hb dX3_sumLists_17 rfl (lv_at hl 4 rfl) ?_
  refine va_get (D := D) (ci := 5) (v := .int 0) (C := RX5) (T := TX5) (N := 3) hx hb hts iw_X3_sumLists_X5 hown hKX.1 hP 2 rfl rfl 1 (by decide) (hts (.fieldLink RX3 51 "TrainFerry$Row" "size" "I") (by decide +kernel)) (fun _ h9 => h9) rfl dX3_sumLists_18 ?_
  refine lv_icmp_ge (tgt := 83) hx hb dX3_sumLists_21 (by decide) (fun _ => ?_) (fun c9 => absurd (by decide) c9)
  exact en_v hx hb hr hlocks () trivial (hP.sub [0, 1, 2] rfl) (hD.sub [0, 1, 2] (by decide) rfl) hS (Nat.le_of_ble_eq_true rfl) (Nat.le_of_ble_eq_true rfl) dX3_sumLists_83
set_option maxHeartbeats 4000000 in
set_option maxRecDepth 100000 in
theorem c_sumLists_2 (l : Launch) (D : va_G) (cy : Nat → ClassId) (h : Nat) (ta : Nat) (lf : Nat) (li : Nat) (le : Nat) (r : Nat) (w : Nat) (sz : Nat) : Met l yX3_sumLists wsX3_sumLists ({ frames := 0, cells := 0, slots := 0, locals := 0 }) (wPre D cy [.ref h, .int 2, .ref r] sz [(h, .inr (3, [.int (-1), .int 0, .ref ta, .int 200, .ref lf, .ref li, .ref le])), (li, .inl (cy 0, 44, .inl (upd (upd (fun _ => 0) 0 0) 11 0))), (r, .inr (5, [.ref w, .int 0, .int 0]))]) (wQv D (fun _ : Unit => True) (fun _u : Unit => [(h, .inr (3, [.int (-1), .int 0, .ref ta, .int 200, .ref lf, .ref li, .ref le])), (li, .inl (cy 0, 44, .inl (upd (upd (upd (fun _ => 0) 0 0) 11 0) 22 0))), (r, .inr (5, [.ref w, .int 0, .int 0]))]) (va_A [(h, .inr (3, [.int (-1), .int 0, .ref ta, .int 200, .ref lf, .ref li, .ref le])), (li, .inl (cy 0, 44, .inl (upd (upd (fun _ => 0) 0 0) 11 0))), (r, .inr (5, [.ref w, .int 0, .int 0]))] sz)) 0 0 (va_A [(h, .inr (3, [.int (-1), .int 0, .ref ta, .int 200, .ref lf, .ref li, .ref le])), (li, .inl (cy 0, 44, .inl (upd (upd (fun _ => 0) 0 0) 11 0))), (r, .inr (5, [.ref w, .int 0, .int 0]))] sz) := by
  refine met_go (y := yX3_sumLists) (ws := wsX3_sumLists) (av := [.ref h, .int 2, .ref r]) (cc := cX3_sumLists) (maxL := 6) (ret := none) (Qc := fun A => wQv D (fun _ : Unit => True) (fun _u : Unit => [(h, .inr (3, [.int (-1), .int 0, .ref ta, .int 200, .ref lf, .ref li, .ref le])), (li, .inl (cy 0, 44, .inl (upd (upd (upd (fun _ => 0) 0 0) 11 0) 22 0))), (r, .inr (5, [.ref w, .int 0, .int 0]))]) A) (by decide) rfl (Nat.le_of_ble_eq_true rfl) ?_
  intro p e s m below meth c ls A hx hb hr hml hown hts hlocks hname hKX hP hD hA hS hl
  have hown : s.vm.findClass RX3 = some m.cls := hown
  have hl : lv_has ls 6 [(0, .ref h), (1, .int 2), (2, .ref r)] := hl
  refine lv_iconst (v := 0) hx hb dX3_sumLists_0 (by decide) ?_
  refine lv_istore_n (lv' := [(3, .int 0), (0, .ref h), (1, .int 2), (2, .ref r)]) hx hb dX3_sumLists_1 rfl hl (by decide) rfl (fun ls hl => ?_)
  refine lv_aload_n hx hb dX3_sumLists_2 rfl (lv_at hl 1 rfl) ?_
  refine va_get (D := D) (ci := 3) (v := .ref li) (C := RX3) (T := TX3) (N := 7) hx hb hts iw_X3_sumLists_X3 hown hKX.1 hP 0 rfl rfl 5 (by decide) (hts (.fieldLink RX3 28 "TrainFerry$EmptyingSearch" "lists" "[I") (by decide +kernel)) (fun _ h9 => h9) rfl dX3_sumLists_3 ?_
  refine lv_iload_n hx hb dX3_sumLists_6 rfl (lv_at hl 2 rfl) ?_
  refine lv_bipush (v := 11) hx hb dX3_sumLists_7 (by decide) ?_
  refine lv_imul hx hb dX3_sumLists_9 ?_
  refine lv_cst 22 (by decide) ?_
  refine lv_iconst (v := 0) hx hb dX3_sumLists_10 (by decide) ?_
  refine va_iast hx hb hKX.1 hP hD hS 1 0 rfl rfl (vind (by decide)) dX3_sumLists_11 (fun H locs hP hD hS => ?_)
  have hP : va_P D vwCl [(h, .inr (3, [.int (-1), .int 0, .ref ta, .int 200, .ref lf, .ref li, .ref le])), (li, .inl (cy 0, 44, .inl (upd (upd (upd (fun _ => 0) 0 0) 11 0) 22 0))), (r, .inr (5, [.ref w, .int 0, .int 0]))] H := hP
  have hD : va_D A [(h, .inr (3, [.int (-1), .int 0, .ref ta, .int 200, .ref lf, .ref li, .ref le])), (li, .inl (cy 0, 44, .inl (upd (upd (upd (fun _ => 0) 0 0) 11 0) 22 0))), (r, .inr (5, [.ref w, .int 0, .int 0]))] := hD
  refine lv_iconst (v := 0) hx hb dX3_sumLists_12 (by decide) ?_
  refine lv_istore (lv' := [(4, .int 0), (3, .int 0), (0, .ref h), (1, .int 2), (2, .ref r)]) hx hb dX3_sumLists_13 hl (by decide) rfl (fun ls hl => ?_)
  refine lv_iload hx hb dX3_sumLists_15 (lv_at hl 0 rfl) ?_
  refine lv_aload_n hx hb dX3_sumLists_17 rfl (lv_at hl 4 rfl) ?_
  refine va_get (D := D) (ci := 5) (v := .int 0) (C := RX5) (T := TX5) (N := 3) hx hb hts iw_X3_sumLists_X5 hown hKX.1 hP 2 rfl rfl 1 (by decide) (hts (.fieldLink RX3 51 "TrainFerry$Row" "size" "I") (by decide +kernel)) (fun _ h9 => h9) rfl dX3_sumLists_18 ?_
  refine lv_icmp_ge (tgt := 83) hx hb dX3_sumLists_21 (by decide) (fun _ => ?_) (fun c9 => absurd (by decide) c9)
  exact en_v hx hb hr hlocks () trivial (hP.sub [0, 1, 2] rfl) (hD.sub [0, 1, 2] (by decide) rfl) hS (Nat.le_of_ble_eq_true rfl) (Nat.le_of_ble_eq_true rfl) dX3_sumLists_83
set_option maxHeartbeats 4000000 in
set_option maxRecDepth 100000 in
theorem c_sumLists_3 (l : Launch) (D : va_G) (cy : Nat → ClassId) (h : Nat) (ta : Nat) (lf : Nat) (li : Nat) (le : Nat) (r : Nat) (w : Nat) (sz : Nat) : Met l yX3_sumLists wsX3_sumLists ({ frames := 0, cells := 0, slots := 0, locals := 0 }) (wPre D cy [.ref h, .int 3, .ref r] sz [(h, .inr (3, [.int (-1), .int 0, .ref ta, .int 200, .ref lf, .ref li, .ref le])), (li, .inl (cy 0, 44, .inl (upd (upd (upd (fun _ => 0) 0 0) 11 0) 22 0))), (r, .inr (5, [.ref w, .int 0, .int 0]))]) (wQv D (fun _ : Unit => True) (fun _u : Unit => [(h, .inr (3, [.int (-1), .int 0, .ref ta, .int 200, .ref lf, .ref li, .ref le])), (li, .inl (cy 0, 44, .inl (upd (upd (upd (upd (fun _ => 0) 0 0) 11 0) 22 0) 33 0))), (r, .inr (5, [.ref w, .int 0, .int 0]))]) (va_A [(h, .inr (3, [.int (-1), .int 0, .ref ta, .int 200, .ref lf, .ref li, .ref le])), (li, .inl (cy 0, 44, .inl (upd (upd (upd (fun _ => 0) 0 0) 11 0) 22 0))), (r, .inr (5, [.ref w, .int 0, .int 0]))] sz)) 0 0 (va_A [(h, .inr (3, [.int (-1), .int 0, .ref ta, .int 200, .ref lf, .ref li, .ref le])), (li, .inl (cy 0, 44, .inl (upd (upd (upd (fun _ => 0) 0 0) 11 0) 22 0))), (r, .inr (5, [.ref w, .int 0, .int 0]))] sz) := by
  refine met_go (y := yX3_sumLists) (ws := wsX3_sumLists) (av := [.ref h, .int 3, .ref r]) (cc := cX3_sumLists) (maxL := 6) (ret := none) (Qc := fun A => wQv D (fun _ : Unit => True) (fun _u : Unit => [(h, .inr (3, [.int (-1), .int 0, .ref ta, .int 200, .ref lf, .ref li, .ref le])), (li, .inl (cy 0, 44, .inl (upd (upd (upd (upd (fun _ => 0) 0 0) 11 0) 22 0) 33 0))), (r, .inr (5, [.ref w, .int 0, .int 0]))]) A) (by decide) rfl (Nat.le_of_ble_eq_true rfl) ?_
  intro p e s m below meth c ls A hx hb hr hml hown hts hlocks hname hKX hP hD hA hS hl
  have hown : s.vm.findClass RX3 = some m.cls := hown
  have hl : lv_has ls 6 [(0, .ref h), (1, .int 3), (2, .ref r)] := hl
  refine lv_iconst (v := 0) hx hb dX3_sumLists_0 (by decide) ?_
  refine lv_istore_n (lv' := [(3, .int 0), (0, .ref h), (1, .int 3), (2, .ref r)]) hx hb dX3_sumLists_1 rfl hl (by decide) rfl (fun ls hl => ?_)
  refine lv_aload_n hx hb dX3_sumLists_2 rfl (lv_at hl 1 rfl) ?_
  refine va_get (D := D) (ci := 3) (v := .ref li) (C := RX3) (T := TX3) (N := 7) hx hb hts iw_X3_sumLists_X3 hown hKX.1 hP 0 rfl rfl 5 (by decide) (hts (.fieldLink RX3 28 "TrainFerry$EmptyingSearch" "lists" "[I") (by decide +kernel)) (fun _ h9 => h9) rfl dX3_sumLists_3 ?_
  refine lv_iload_n hx hb dX3_sumLists_6 rfl (lv_at hl 2 rfl) ?_
  refine lv_bipush (v := 11) hx hb dX3_sumLists_7 (by decide) ?_
  refine lv_imul hx hb dX3_sumLists_9 ?_
  refine lv_cst 33 (by decide) ?_
  refine lv_iconst (v := 0) hx hb dX3_sumLists_10 (by decide) ?_
  refine va_iast hx hb hKX.1 hP hD hS 1 0 rfl rfl (vind (by decide)) dX3_sumLists_11 (fun H locs hP hD hS => ?_)
  have hP : va_P D vwCl [(h, .inr (3, [.int (-1), .int 0, .ref ta, .int 200, .ref lf, .ref li, .ref le])), (li, .inl (cy 0, 44, .inl (upd (upd (upd (upd (fun _ => 0) 0 0) 11 0) 22 0) 33 0))), (r, .inr (5, [.ref w, .int 0, .int 0]))] H := hP
  have hD : va_D A [(h, .inr (3, [.int (-1), .int 0, .ref ta, .int 200, .ref lf, .ref li, .ref le])), (li, .inl (cy 0, 44, .inl (upd (upd (upd (upd (fun _ => 0) 0 0) 11 0) 22 0) 33 0))), (r, .inr (5, [.ref w, .int 0, .int 0]))] := hD
  refine lv_iconst (v := 0) hx hb dX3_sumLists_12 (by decide) ?_
  refine lv_istore (lv' := [(4, .int 0), (3, .int 0), (0, .ref h), (1, .int 3), (2, .ref r)]) hx hb dX3_sumLists_13 hl (by decide) rfl (fun ls hl => ?_)
  refine lv_iload hx hb dX3_sumLists_15 (lv_at hl 0 rfl) ?_
  refine lv_aload_n hx hb dX3_sumLists_17 rfl (lv_at hl 4 rfl) ?_
  refine va_get (D := D) (ci := 5) (v := .int 0) (C := RX5) (T := TX5) (N := 3) hx hb hts iw_X3_sumLists_X5 hown hKX.1 hP 2 rfl rfl 1 (by decide) (hts (.fieldLink RX3 51 "TrainFerry$Row" "size" "I") (by decide +kernel)) (fun _ h9 => h9) rfl dX3_sumLists_18 ?_
  refine lv_icmp_ge (tgt := 83) hx hb dX3_sumLists_21 (by decide) (fun _ => ?_) (fun c9 => absurd (by decide) c9)
  exact en_v hx hb hr hlocks () trivial (hP.sub [0, 1, 2] rfl) (hD.sub [0, 1, 2] (by decide) rfl) hS (Nat.le_of_ble_eq_true rfl) (Nat.le_of_ble_eq_true rfl) dX3_sumLists_83
theorem iw_X3_stateNow_X3 : ∀ w ∈ wsX30, w ∈ wsX3_stateNow := by decide +kernel
set_option maxHeartbeats 4000000 in
set_option maxRecDepth 100000 in
theorem c_ES_stateNow (l : Launch) (D : va_G) (cy : Nat → ClassId) (tS : Nat) (h : Nat) (ta : Nat) (lf : Nat) (li : Nat) (le : Nat) (sz : Nat) : Met l yX3_stateNow wsX3_stateNow ({ frames := 0, cells := 0, slots := 0, locals := 0 }) (wPreX D cy tS [.ref h] sz [(h, .inr (3, [.int (-1), .int 0, .ref ta, .int 200, .ref lf, .ref li, .ref le])), (lf, .inl (cy 0, 4, .inl (upd (upd (upd (upd (fun _ => 0) 0 0) 1 0) 2 0) 3 0)))]) (wQi D 0 (fun _ : Unit => True) (fun _u : Unit => [(h, .inr (3, [.int (-1), .int 0, .ref ta, .int 200, .ref lf, .ref li, .ref le])), (lf, .inl (cy 0, 4, .inl (upd (upd (upd (upd (fun _ => 0) 0 0) 1 0) 2 0) 3 0)))]) (va_A [(h, .inr (3, [.int (-1), .int 0, .ref ta, .int 200, .ref lf, .ref li, .ref le])), (lf, .inl (cy 0, 4, .inl (upd (upd (upd (upd (fun _ => 0) 0 0) 1 0) 2 0) 3 0)))] sz)) 0 0 (va_A [(h, .inr (3, [.int (-1), .int 0, .ref ta, .int 200, .ref lf, .ref li, .ref le])), (lf, .inl (cy 0, 4, .inl (upd (upd (upd (upd (fun _ => 0) 0 0) 1 0) 2 0) 3 0)))] sz) := by
  refine met_goX (y := yX3_stateNow) (ws := wsX3_stateNow) (av := [.ref h]) (cc := cX3_stateNow) (maxL := 3) (ret := (some .int)) (Qc := fun A => wQi D 0 (fun _ : Unit => True) (fun _u : Unit => [(h, .inr (3, [.int (-1), .int 0, .ref ta, .int 200, .ref lf, .ref li, .ref le])), (lf, .inl (cy 0, 4, .inl (upd (upd (upd (upd (fun _ => 0) 0 0) 1 0) 2 0) 3 0)))]) A) (by decide) rfl (Nat.le_of_ble_eq_true rfl) ?_
  intro p e s m below meth c ls A hx hb hr hml hown hts hlocks hname hKX hSF hP hD hA hS hl
  have hown : s.vm.findClass RX3 = some m.cls := hown
  have hl : lv_has ls 3 [(0, .ref h)] := hl
  refine lv_iconst (v := 0) hx hb dX3_stateNow_0 (by decide) ?_
  refine lv_istore_n (lv' := [(1, .int 0), (0, .ref h)]) hx hb dX3_stateNow_1 rfl hl (by decide) rfl (fun ls hl => ?_)
  refine lv_iconst (v := 0) hx hb dX3_stateNow_2 (by decide) ?_
  refine lv_istore_n (lv' := [(2, .int 0), (1, .int 0), (0, .ref h)]) hx hb dX3_stateNow_3 rfl hl (by decide) rfl (fun ls hl => ?_)
  refine lv_iload_n hx hb dX3_stateNow_4 rfl (lv_at hl 0 rfl) ?_
  refine lv_iconst (v := 4) hx hb dX3_stateNow_5 (by decide) ?_
  refine lv_icmp_ge (tgt := 30) hx hb dX3_stateNow_6 (by decide) (fun c9 => absurd c9 (by decide)) (fun _ => ?_)
  refine lv_iload_n hx hb dX3_stateNow_9 rfl (lv_at hl 1 rfl) ?_
  refine lv_aload_n hx hb dX3_stateNow_10 rfl (lv_at hl 2 rfl) ?_
  refine va_get (D := D) (ci := 3) (v := .ref lf) (C := RX3) (T := TX3) (N := 7) hx hb hts iw_X3_stateNow_X3 hown hKX.1 hP 0 rfl rfl 4 (by decide) (hts (.fieldLink RX3 25 "TrainFerry$EmptyingSearch" "left" "[I") (by decide +kernel)) (fun _ h9 => h9) rfl dX3_stateNow_11 ?_
  refine lv_iload_n hx hb dX3_stateNow_14 rfl (lv_at hl 0 rfl) ?_
  refine va_iald hx hb hKX.1 hP 1 0 rfl rfl (vind (by decide)) dX3_stateNow_15 ?_
  refine lv_cst 0 rfl ?_
  refine va_gets hx hb hSF.1 hS hown (hts (.fieldLink RX3 103 "TrainFerry$EmptyingSearch" "STRIDES" "[I") (by decide +kernel)) (fun _ h9 => h9) dX3_stateNow_16 ?_
  refine lv_iload_n hx hb dX3_stateNow_19 rfl (lv_at hl 0 rfl) ?_
  refine va_ti (v := .int 1331) hx hb hSF.2 hS (vind (by decide)) rfl dX3_stateNow_20 ?_
  refine lv_imul hx hb dX3_stateNow_21 ?_
  refine lv_cst 0 (by decide) ?_
  refine lv_iadd hx hb dX3_stateNow_22 ?_
  refine lv_cst 0 (by decide) ?_
  refine lv_istore_n (lv' := [(1, .int 0), (2, .int 0), (0, .ref h)]) hx hb dX3_stateNow_23 rfl hl (by decide) rfl (fun ls hl => ?_)
  refine lv_iinc (v := 1) (lv' := [(2, .int 1), (1, .int 0), (0, .ref h)]) hx hb dX3_stateNow_24 hl (k := 1) rfl (by decide) (by decide) rfl (fun ls hl => ?_)
  refine lv_goto (tgt := 4) hx hb dX3_stateNow_27 (by decide) ?_
  refine lv_iload_n hx hb dX3_stateNow_4 rfl (lv_at hl 0 rfl) ?_
  refine lv_iconst (v := 4) hx hb dX3_stateNow_5 (by decide) ?_
  refine lv_icmp_ge (tgt := 30) hx hb dX3_stateNow_6 (by decide) (fun c9 => absurd c9 (by decide)) (fun _ => ?_)
  refine lv_iload_n hx hb dX3_stateNow_9 rfl (lv_at hl 1 rfl) ?_
  refine lv_aload_n hx hb dX3_stateNow_10 rfl (lv_at hl 2 rfl) ?_
  refine va_get (D := D) (ci := 3) (v := .ref lf) (C := RX3) (T := TX3) (N := 7) hx hb hts iw_X3_stateNow_X3 hown hKX.1 hP 0 rfl rfl 4 (by decide) (hts (.fieldLink RX3 25 "TrainFerry$EmptyingSearch" "left" "[I") (by decide +kernel)) (fun _ h9 => h9) rfl dX3_stateNow_11 ?_
  refine lv_iload_n hx hb dX3_stateNow_14 rfl (lv_at hl 0 rfl) ?_
  refine va_iald hx hb hKX.1 hP 1 0 rfl rfl (vind (by decide)) dX3_stateNow_15 ?_
  refine lv_cst 0 rfl ?_
  refine va_gets hx hb hSF.1 hS hown (hts (.fieldLink RX3 103 "TrainFerry$EmptyingSearch" "STRIDES" "[I") (by decide +kernel)) (fun _ h9 => h9) dX3_stateNow_16 ?_
  refine lv_iload_n hx hb dX3_stateNow_19 rfl (lv_at hl 0 rfl) ?_
  refine va_ti (v := .int 121) hx hb hSF.2 hS (vind (by decide)) rfl dX3_stateNow_20 ?_
  refine lv_imul hx hb dX3_stateNow_21 ?_
  refine lv_cst 0 (by decide) ?_
  refine lv_iadd hx hb dX3_stateNow_22 ?_
  refine lv_cst 0 (by decide) ?_
  refine lv_istore_n (lv' := [(1, .int 0), (2, .int 1), (0, .ref h)]) hx hb dX3_stateNow_23 rfl hl (by decide) rfl (fun ls hl => ?_)
  refine lv_iinc (v := 2) (lv' := [(2, .int 2), (1, .int 0), (0, .ref h)]) hx hb dX3_stateNow_24 hl (k := 1) rfl (by decide) (by decide) rfl (fun ls hl => ?_)
  refine lv_goto (tgt := 4) hx hb dX3_stateNow_27 (by decide) ?_
  refine lv_iload_n hx hb dX3_stateNow_4 rfl (lv_at hl 0 rfl) ?_
  refine lv_iconst (v := 4) hx hb dX3_stateNow_5 (by decide) ?_
  refine lv_icmp_ge (tgt := 30) hx hb dX3_stateNow_6 (by decide) (fun c9 => absurd c9 (by decide)) (fun _ => ?_)
  refine lv_iload_n hx hb dX3_stateNow_9 rfl (lv_at hl 1 rfl) ?_
  refine lv_aload_n hx hb dX3_stateNow_10 rfl (lv_at hl 2 rfl) ?_
  refine va_get (D := D) (ci := 3) (v := .ref lf) (C := RX3) (T := TX3) (N := 7) hx hb hts iw_X3_stateNow_X3 hown hKX.1 hP 0 rfl rfl 4 (by decide) (hts (.fieldLink RX3 25 "TrainFerry$EmptyingSearch" "left" "[I") (by decide +kernel)) (fun _ h9 => h9) rfl dX3_stateNow_11 ?_
  refine lv_iload_n hx hb dX3_stateNow_14 rfl (lv_at hl 0 rfl) ?_
  refine va_iald hx hb hKX.1 hP 1 0 rfl rfl (vind (by decide)) dX3_stateNow_15 ?_
  refine lv_cst 0 rfl ?_
  refine va_gets hx hb hSF.1 hS hown (hts (.fieldLink RX3 103 "TrainFerry$EmptyingSearch" "STRIDES" "[I") (by decide +kernel)) (fun _ h9 => h9) dX3_stateNow_16 ?_
  refine lv_iload_n hx hb dX3_stateNow_19 rfl (lv_at hl 0 rfl) ?_
  refine va_ti (v := .int 11) hx hb hSF.2 hS (vind (by decide)) rfl dX3_stateNow_20 ?_
  refine lv_imul hx hb dX3_stateNow_21 ?_
  refine lv_cst 0 (by decide) ?_
  refine lv_iadd hx hb dX3_stateNow_22 ?_
  refine lv_cst 0 (by decide) ?_
  refine lv_istore_n (lv' := [(1, .int 0), (2, .int 2), (0, .ref h)]) hx hb dX3_stateNow_23 rfl hl (by decide) rfl (fun ls hl => ?_)
  refine lv_iinc (v := 3) (lv' := [(2, .int 3), (1, .int 0), (0, .ref h)]) hx hb dX3_stateNow_24 hl (k := 1) rfl (by decide) (by decide) rfl (fun ls hl => ?_)
  refine lv_goto (tgt := 4) hx hb dX3_stateNow_27 (by decide) ?_
  refine lv_iload_n hx hb dX3_stateNow_4 rfl (lv_at hl 0 rfl) ?_
  refine lv_iconst (v := 4) hx hb dX3_stateNow_5 (by decide) ?_
  refine lv_icmp_ge (tgt := 30) hx hb dX3_stateNow_6 (by decide) (fun c9 => absurd c9 (by decide)) (fun _ => ?_)
  refine lv_iload_n hx hb dX3_stateNow_9 rfl (lv_at hl 1 rfl) ?_
  refine lv_aload_n hx hb dX3_stateNow_10 rfl (lv_at hl 2 rfl) ?_
  refine va_get (D := D) (ci := 3) (v := .ref lf) (C := RX3) (T := TX3) (N := 7) hx hb hts iw_X3_stateNow_X3 hown hKX.1 hP 0 rfl rfl 4 (by decide) (hts (.fieldLink RX3 25 "TrainFerry$EmptyingSearch" "left" "[I") (by decide +kernel)) (fun _ h9 => h9) rfl dX3_stateNow_11 ?_
  refine lv_iload_n hx hb dX3_stateNow_14 rfl (lv_at hl 0 rfl) ?_
  refine va_iald hx hb hKX.1 hP 1 0 rfl rfl (vind (by decide)) dX3_stateNow_15 ?_
  refine lv_cst 0 rfl ?_
  refine va_gets hx hb hSF.1 hS hown (hts (.fieldLink RX3 103 "TrainFerry$EmptyingSearch" "STRIDES" "[I") (by decide +kernel)) (fun _ h9 => h9) dX3_stateNow_16 ?_
  refine lv_iload_n hx hb dX3_stateNow_19 rfl (lv_at hl 0 rfl) ?_
  refine va_ti (v := .int 1) hx hb hSF.2 hS (vind (by decide)) rfl dX3_stateNow_20 ?_
  refine lv_imul hx hb dX3_stateNow_21 ?_
  refine lv_cst 0 (by decide) ?_
  refine lv_iadd hx hb dX3_stateNow_22 ?_
  refine lv_cst 0 (by decide) ?_
  refine lv_istore_n (lv' := [(1, .int 0), (2, .int 3), (0, .ref h)]) hx hb dX3_stateNow_23 rfl hl (by decide) rfl (fun ls hl => ?_)
  refine lv_iinc (v := 4) (lv' := [(2, .int 4), (1, .int 0), (0, .ref h)]) hx hb dX3_stateNow_24 hl (k := 1) rfl (by decide) (by decide) rfl (fun ls hl => ?_)
  refine lv_goto (tgt := 4) hx hb dX3_stateNow_27 (by decide) ?_
  refine lv_iload_n hx hb dX3_stateNow_4 rfl (lv_at hl 0 rfl) ?_
  refine lv_iconst (v := 4) hx hb dX3_stateNow_5 (by decide) ?_
  refine lv_icmp_ge (tgt := 30) hx hb dX3_stateNow_6 (by decide) (fun _ => ?_) (fun c9 => absurd (by decide) c9)
  refine lv_iload_n hx hb dX3_stateNow_30 rfl (lv_at hl 1 rfl) ?_
  exact en_i hx hb hr hlocks () rfl trivial (hP.sub [0, 1] rfl) (hD.sub [0, 1] (by decide) rfl) hS (Nat.le_of_ble_eq_true rfl) (Nat.le_of_ble_eq_true rfl) dX3_stateNow_31
set_option maxHeartbeats 4000000 in
set_option maxRecDepth 100000 in
theorem c_ES_leastWorst (l : Launch) (D : va_G) (cy : Nat → ClassId) (tS : Nat) (h : Nat) (ta : Nat) (lf : Nat) (li : Nat) (le : Nat) (sz : Nat) : Met l yX3_leastWorst wsX3_leastWorst ({ frames := 1, cells := 0, slots := 0, locals := 22 }) (wPreX D cy tS [.ref h] sz [(h, .inr (3, [.int (-1), .int 0, .ref ta, .int 200, .ref lf, .ref li, .ref le])), (lf, .inl (cy 0, 4, .inl (upd (upd (upd (upd (fun _ => 0) 0 0) 1 0) 2 0) 3 0)))]) (wQi D 0 (fun _ : Unit => True) (fun _u : Unit => [(h, .inr (3, [.int (-1), .int 0, .ref ta, .int 200, .ref lf, .ref li, .ref le])), (lf, .inl (cy 0, 4, .inl (upd (upd (upd (upd (fun _ => 0) 0 0) 1 0) 2 0) 3 0)))]) (va_A [(h, .inr (3, [.int (-1), .int 0, .ref ta, .int 200, .ref lf, .ref li, .ref le])), (lf, .inl (cy 0, 4, .inl (upd (upd (upd (upd (fun _ => 0) 0 0) 1 0) 2 0) 3 0)))] sz)) 0 0 (va_A [(h, .inr (3, [.int (-1), .int 0, .ref ta, .int 200, .ref lf, .ref li, .ref le])), (lf, .inl (cy 0, 4, .inl (upd (upd (upd (upd (fun _ => 0) 0 0) 1 0) 2 0) 3 0)))] sz) := by
  refine met_goX (y := yX3_leastWorst) (ws := wsX3_leastWorst) (av := [.ref h]) (cc := cX3_leastWorst) (maxL := 5) (ret := (some .int)) (Qc := fun A => wQi D 0 (fun _ : Unit => True) (fun _u : Unit => [(h, .inr (3, [.int (-1), .int 0, .ref ta, .int 200, .ref lf, .ref li, .ref le])), (lf, .inl (cy 0, 4, .inl (upd (upd (upd (upd (fun _ => 0) 0 0) 1 0) 2 0) 3 0)))]) A) (by decide) rfl (Nat.le_of_ble_eq_true rfl) ?_
  intro p e s m below meth c ls A hx hb hr hml hown hts hlocks hname hKX hSF hP hD hA hS hl
  have hown : s.vm.findClass RX3 = some m.cls := hown
  have hl : lv_has ls 5 [(0, .ref h)] := hl
  refine lv_aload_n hx hb dX3_leastWorst_0 rfl (lv_at hl 0 rfl) ?_
  refine cl_i (wr := []) (va_runV (As := []) (rest := []) ⟨hx, hb, hml, hown, hts⟩ (c_ES_stateNow l D cy _ h ta lf li le _) (cwV 0 hts gX3_leastWorst_X3_stateNow rfl rfl rfl (by decide +kernel) ⟨(Nat.le_of_ble_eq_true rfl), (Nat.le_of_ble_eq_true rfl)⟩) (pre_VX hKX hP hD hSF hS hA (ci := 3) (q0 := 0) rfl rfl [0, 1] rfl (by decide) rfl) rfl rfl hl.1 rfl (lv_room (Nat.le_of_ble_eq_true rfl)) dX3_leastWorst_1 ⟨(Nat.le_of_ble_eq_true rfl), (Nat.le_of_ble_eq_true rfl)⟩) hP hD hS hA [0, 1] [] rfl rfl (by decide) (by decide) (fun u1 H locs _ hP hD hS => ?_)
  have hP : va_P D vwCl [(h, .inr (3, [.int (-1), .int 0, .ref ta, .int 200, .ref lf, .ref li, .ref le])), (lf, .inl (cy 0, 4, .inl (upd (upd (upd (upd (fun _ => 0) 0 0) 1 0) 2 0) 3 0)))] H := hP
  have hD : va_D A [(h, .inr (3, [.int (-1), .int 0, .ref ta, .int 200, .ref lf, .ref li, .ref le])), (lf, .inl (cy 0, 4, .inl (upd (upd (upd (upd (fun _ => 0) 0 0) 1 0) 2 0) 3 0)))] := hD
  refine lv_istore_n (lv' := [(1, .int 0), (0, .ref h)]) hx hb dX3_leastWorst_4 rfl hl (by decide) rfl (fun ls hl => ?_)
  refine lv_iload_n hx hb dX3_leastWorst_5 rfl (lv_at hl 0 rfl) ?_
  refine lv_if_ne (tgt := 11) hx hb dX3_leastWorst_6 (by decide) (fun c9 => absurd (by decide) c9) (fun _ => ?_)
  refine lv_iconst (v := 0) hx hb dX3_leastWorst_9 (by decide) ?_
  exact en_i hx hb hr hlocks () rfl trivial (hP.sub [0, 1] rfl) (hD.sub [0, 1] (by decide) rfl) hS (Nat.le_of_ble_eq_true rfl) (Nat.le_of_ble_eq_true rfl) dX3_leastWorst_10
theorem iw_X3_lookAtAllStates_X3 : ∀ w ∈ wsX30, w ∈ wsX3_lookAtAllStates := by decide +kernel
set_option maxHeartbeats 4000000 in
set_option maxRecDepth 100000 in
theorem c_lookAll (l : Launch) (D : va_G) (cy : Nat → ClassId) (tS : Nat) (h : Nat) (ta : Nat) (lf : Nat) (li : Nat) (le : Nat) (sz : Nat) : Met l yX3_lookAtAllStates wsX3_lookAtAllStates ({ frames := 2, cells := 0, slots := 0, locals := 46 }) (wPreX D cy tS [.ref h, .int 0, .int 0, .int 0, .int 0] sz [(h, .inr (3, [.int (-1), .int 0, .ref ta, .int 200, .ref lf, .ref li, .ref le])), (lf, .inl (cy 0, 4, .inl (fun _ => 0))), (le, .inl (cy 0, 14641, .inl (fun _ => 0)))]) (wQv D (fun _ : Unit => True) (fun _u : Unit => [(le, .inl (cy 0, 14641, .inl (upd (fun _ => 0) 0 0))), (h, .inr (3, [.int (-1), .int 0, .ref ta, .int 200, .ref lf, .ref li, .ref le])), (lf, .inl (cy 0, 4, .inl (upd (upd (upd (upd (fun _ => 0) 0 0) 1 0) 2 0) 3 0)))]) (va_A [(h, .inr (3, [.int (-1), .int 0, .ref ta, .int 200, .ref lf, .ref li, .ref le])), (lf, .inl (cy 0, 4, .inl (fun _ => 0))), (le, .inl (cy 0, 14641, .inl (fun _ => 0)))] sz)) 0 0 (va_A [(h, .inr (3, [.int (-1), .int 0, .ref ta, .int 200, .ref lf, .ref li, .ref le])), (lf, .inl (cy 0, 4, .inl (fun _ => 0))), (le, .inl (cy 0, 14641, .inl (fun _ => 0)))] sz) := by
  refine met_goX (y := yX3_lookAtAllStates) (ws := wsX3_lookAtAllStates) (av := [.ref h, .int 0, .int 0, .int 0, .int 0]) (cc := cX3_lookAtAllStates) (maxL := 9) (ret := none) (Qc := fun A => wQv D (fun _ : Unit => True) (fun _u : Unit => [(le, .inl (cy 0, 14641, .inl (upd (fun _ => 0) 0 0))), (h, .inr (3, [.int (-1), .int 0, .ref ta, .int 200, .ref lf, .ref li, .ref le])), (lf, .inl (cy 0, 4, .inl (upd (upd (upd (upd (fun _ => 0) 0 0) 1 0) 2 0) 3 0)))]) A) (by decide) rfl (Nat.le_of_ble_eq_true rfl) ?_
  intro p e s m below meth c ls A hx hb hr hml hown hts hlocks hname hKX hSF hP hD hA hS hl
  have hown : s.vm.findClass RX3 = some m.cls := hown
  have hl : lv_has ls 9 [(0, .ref h), (1, .int 0), (2, .int 0), (3, .int 0), (4, .int 0)] := hl
  refine lv_iconst (v := 0) hx hb dX3_lookAtAllStates_0 (by decide) ?_
  refine lv_istore (lv' := [(5, .int 0), (0, .ref h), (1, .int 0), (2, .int 0), (3, .int 0), (4, .int 0)]) hx hb dX3_lookAtAllStates_1 hl (by decide) rfl (fun ls hl => ?_)
  refine lv_iload hx hb dX3_lookAtAllStates_3 (lv_at hl 0 rfl) ?_
  refine lv_iload_n hx hb dX3_lookAtAllStates_5 rfl (lv_at hl 2 rfl) ?_
  refine lv_icmp_gt (tgt := 106) hx hb dX3_lookAtAllStates_6 (by decide) (fun c9 => absurd c9 (by decide)) (fun _ => ?_)
  refine lv_aload_n hx hb dX3_lookAtAllStates_9 rfl (lv_at hl 1 rfl) ?_
  refine va_get (D := D) (ci := 3) (v := .ref lf) (C := RX3) (T := TX3) (N := 7) hx hb hts iw_X3_lookAtAllStates_X3 hown hKX.1 hP 0 rfl rfl 4 (by decide) (hts (.fieldLink RX3 25 "TrainFerry$EmptyingSearch" "left" "[I") (by decide +kernel)) (fun _ h9 => h9) rfl dX3_lookAtAllStates_10 ?_
  refine lv_iconst (v := 0) hx hb dX3_lookAtAllStates_13 (by decide) ?_
  refine lv_iload hx hb dX3_lookAtAllStates_14 (lv_at hl 0 rfl) ?_
  refine va_iast hx hb hKX.1 hP hD hS 1 0 rfl rfl (vind (by decide)) dX3_lookAtAllStates_16 (fun H locs hP hD hS => ?_)
  have hP : va_P D vwCl [(h, .inr (3, [.int (-1), .int 0, .ref ta, .int 200, .ref lf, .ref li, .ref le])), (lf, .inl (cy 0, 4, .inl (upd (fun _ => 0) 0 0))), (le, .inl (cy 0, 14641, .inl (fun _ => 0)))] H := hP
  have hD : va_D A [(h, .inr (3, [.int (-1), .int 0, .ref ta, .int 200, .ref lf, .ref li, .ref le])), (lf, .inl (cy 0, 4, .inl (upd (fun _ => 0) 0 0))), (le, .inl (cy 0, 14641, .inl (fun _ => 0)))] := hD
  refine lv_iconst (v := 0) hx hb dX3_lookAtAllStates_17 (by decide) ?_
  refine lv_istore (lv' := [(6, .int 0), (5, .int 0), (0, .ref h), (1, .int 0), (2, .int 0), (3, .int 0), (4, .int 0)]) hx hb dX3_lookAtAllStates_18 hl (by decide) rfl (fun ls hl => ?_)
  refine lv_iload hx hb dX3_lookAtAllStates_20 (lv_at hl 0 rfl) ?_
  refine lv_iload_n hx hb dX3_lookAtAllStates_22 rfl (lv_at hl 4 rfl) ?_
  refine lv_icmp_gt (tgt := 100) hx hb dX3_lookAtAllStates_23 (by decide) (fun c9 => absurd c9 (by decide)) (fun _ => ?_)
  refine lv_aload_n hx hb dX3_lookAtAllStates_26 rfl (lv_at hl 2 rfl) ?_
  refine va_get (D := D) (ci := 3) (v := .ref lf) (C := RX3) (T := TX3) (N := 7) hx hb hts iw_X3_lookAtAllStates_X3 hown hKX.1 hP 0 rfl rfl 4 (by decide) (hts (.fieldLink RX3 25 "TrainFerry$EmptyingSearch" "left" "[I") (by decide +kernel)) (fun _ h9 => h9) rfl dX3_lookAtAllStates_27 ?_
  refine lv_iconst (v := 1) hx hb dX3_lookAtAllStates_30 (by decide) ?_
  refine lv_iload hx hb dX3_lookAtAllStates_31 (lv_at hl 0 rfl) ?_
  refine va_iast hx hb hKX.1 hP hD hS 1 0 rfl rfl (vind (by decide)) dX3_lookAtAllStates_33 (fun H locs hP hD hS => ?_)
  have hP : va_P D vwCl [(h, .inr (3, [.int (-1), .int 0, .ref ta, .int 200, .ref lf, .ref li, .ref le])), (lf, .inl (cy 0, 4, .inl (upd (upd (fun _ => 0) 0 0) 1 0))), (le, .inl (cy 0, 14641, .inl (fun _ => 0)))] H := hP
  have hD : va_D A [(h, .inr (3, [.int (-1), .int 0, .ref ta, .int 200, .ref lf, .ref li, .ref le])), (lf, .inl (cy 0, 4, .inl (upd (upd (fun _ => 0) 0 0) 1 0))), (le, .inl (cy 0, 14641, .inl (fun _ => 0)))] := hD
  refine lv_iconst (v := 0) hx hb dX3_lookAtAllStates_34 (by decide) ?_
  refine lv_istore (lv' := [(7, .int 0), (6, .int 0), (5, .int 0), (0, .ref h), (1, .int 0), (2, .int 0), (3, .int 0), (4, .int 0)]) hx hb dX3_lookAtAllStates_35 hl (by decide) rfl (fun ls hl => ?_)
  refine lv_iload hx hb dX3_lookAtAllStates_37 (lv_at hl 0 rfl) ?_
  refine lv_iload_n hx hb dX3_lookAtAllStates_39 rfl (lv_at hl 6 rfl) ?_
  refine lv_icmp_gt (tgt := 94) hx hb dX3_lookAtAllStates_40 (by decide) (fun c9 => absurd c9 (by decide)) (fun _ => ?_)
  refine lv_aload_n hx hb dX3_lookAtAllStates_43 rfl (lv_at hl 3 rfl) ?_
  refine va_get (D := D) (ci := 3) (v := .ref lf) (C := RX3) (T := TX3) (N := 7) hx hb hts iw_X3_lookAtAllStates_X3 hown hKX.1 hP 0 rfl rfl 4 (by decide) (hts (.fieldLink RX3 25 "TrainFerry$EmptyingSearch" "left" "[I") (by decide +kernel)) (fun _ h9 => h9) rfl dX3_lookAtAllStates_44 ?_
  refine lv_iconst (v := 2) hx hb dX3_lookAtAllStates_47 (by decide) ?_
  refine lv_iload hx hb dX3_lookAtAllStates_48 (lv_at hl 0 rfl) ?_
  refine va_iast hx hb hKX.1 hP hD hS 1 0 rfl rfl (vind (by decide)) dX3_lookAtAllStates_50 (fun H locs hP hD hS => ?_)
  have hP : va_P D vwCl [(h, .inr (3, [.int (-1), .int 0, .ref ta, .int 200, .ref lf, .ref li, .ref le])), (lf, .inl (cy 0, 4, .inl (upd (upd (upd (fun _ => 0) 0 0) 1 0) 2 0))), (le, .inl (cy 0, 14641, .inl (fun _ => 0)))] H := hP
  have hD : va_D A [(h, .inr (3, [.int (-1), .int 0, .ref ta, .int 200, .ref lf, .ref li, .ref le])), (lf, .inl (cy 0, 4, .inl (upd (upd (upd (fun _ => 0) 0 0) 1 0) 2 0))), (le, .inl (cy 0, 14641, .inl (fun _ => 0)))] := hD
  refine lv_iconst (v := 0) hx hb dX3_lookAtAllStates_51 (by decide) ?_
  refine lv_istore (lv' := [(8, .int 0), (7, .int 0), (6, .int 0), (5, .int 0), (0, .ref h), (1, .int 0), (2, .int 0), (3, .int 0), (4, .int 0)]) hx hb dX3_lookAtAllStates_52 hl (by decide) rfl (fun ls hl => ?_)
  refine lv_iload hx hb dX3_lookAtAllStates_54 (lv_at hl 0 rfl) ?_
  refine lv_iload hx hb dX3_lookAtAllStates_56 (lv_at hl 8 rfl) ?_
  refine lv_icmp_gt (tgt := 88) hx hb dX3_lookAtAllStates_58 (by decide) (fun c9 => absurd c9 (by decide)) (fun _ => ?_)
  refine lv_aload_n hx hb dX3_lookAtAllStates_61 rfl (lv_at hl 4 rfl) ?_
  refine va_get (D := D) (ci := 3) (v := .ref lf) (C := RX3) (T := TX3) (N := 7) hx hb hts iw_X3_lookAtAllStates_X3 hown hKX.1 hP 0 rfl rfl 4 (by decide) (hts (.fieldLink RX3 25 "TrainFerry$EmptyingSearch" "left" "[I") (by decide +kernel)) (fun _ h9 => h9) rfl dX3_lookAtAllStates_62 ?_
  refine lv_iconst (v := 3) hx hb dX3_lookAtAllStates_65 (by decide) ?_
  refine lv_iload hx hb dX3_lookAtAllStates_66 (lv_at hl 0 rfl) ?_
  refine va_iast hx hb hKX.1 hP hD hS 1 0 rfl rfl (vind (by decide)) dX3_lookAtAllStates_68 (fun H locs hP hD hS => ?_)
  have hP : va_P D vwCl [(h, .inr (3, [.int (-1), .int 0, .ref ta, .int 200, .ref lf, .ref li, .ref le])), (lf, .inl (cy 0, 4, .inl (upd (upd (upd (upd (fun _ => 0) 0 0) 1 0) 2 0) 3 0))), (le, .inl (cy 0, 14641, .inl (fun _ => 0)))] H := hP
  have hD : va_D A [(h, .inr (3, [.int (-1), .int 0, .ref ta, .int 200, .ref lf, .ref li, .ref le])), (lf, .inl (cy 0, 4, .inl (upd (upd (upd (upd (fun _ => 0) 0 0) 1 0) 2 0) 3 0))), (le, .inl (cy 0, 14641, .inl (fun _ => 0)))] := hD
  refine lv_aload_n hx hb dX3_lookAtAllStates_69 rfl (lv_at hl 4 rfl) ?_
  refine va_get (D := D) (ci := 3) (v := .ref le) (C := RX3) (T := TX3) (N := 7) hx hb hts iw_X3_lookAtAllStates_X3 hown hKX.1 hP 0 rfl rfl 6 (by decide) (hts (.fieldLink RX3 31 "TrainFerry$EmptyingSearch" "least" "[I") (by decide +kernel)) (fun _ h9 => h9) rfl dX3_lookAtAllStates_70 ?_
  refine lv_aload_n hx hb dX3_lookAtAllStates_73 rfl (lv_at hl 4 rfl) ?_
  refine cl_i (wr := [(le, .inl (cy 0, 14641, .inl (fun _ => 0)))]) (va_runV (As := []) (rest := [.ref le]) ⟨hx, hb, hml, hown, hts⟩ (c_ES_stateNow l D cy _ h ta lf li le _) (cwV 0 hts gX3_lookAtAllStates_X3_stateNow rfl rfl rfl (by decide +kernel) ⟨(Nat.le_of_ble_eq_true rfl), (Nat.le_of_ble_eq_true rfl)⟩) (pre_VX hKX hP hD hSF hS hA (ci := 3) (q0 := 0) rfl rfl [0, 1] rfl (by decide) rfl) rfl rfl hl.1 rfl (lv_room (Nat.le_of_ble_eq_true rfl)) dX3_lookAtAllStates_74 ⟨(Nat.le_of_ble_eq_true rfl), (Nat.le_of_ble_eq_true rfl)⟩) hP hD hS hA [0, 1] [2] rfl rfl (by decide) (by decide) (fun u1 H locs _ hP hD hS => ?_)
  have hP : va_P D vwCl [(le, .inl (cy 0, 14641, .inl (fun _ => 0))), (h, .inr (3, [.int (-1), .int 0, .ref ta, .int 200, .ref lf, .ref li, .ref le])), (lf, .inl (cy 0, 4, .inl (upd (upd (upd (upd (fun _ => 0) 0 0) 1 0) 2 0) 3 0)))] H := hP
  have hD : va_D A [(le, .inl (cy 0, 14641, .inl (fun _ => 0))), (h, .inr (3, [.int (-1), .int 0, .ref ta, .int 200, .ref lf, .ref li, .ref le])), (lf, .inl (cy 0, 4, .inl (upd (upd (upd (upd (fun _ => 0) 0 0) 1 0) 2 0) 3 0)))] := hD
  refine lv_aload_n hx hb dX3_lookAtAllStates_77 rfl (lv_at hl 4 rfl) ?_
  refine cl_i (wr := [(le, .inl (cy 0, 14641, .inl (fun _ => 0)))]) (va_runV (As := []) (rest := [.int 0, .ref le]) ⟨hx, hb, hml, hown, hts⟩ (c_ES_leastWorst l D cy _ h ta lf li le _) (cwV 0 hts gX3_lookAtAllStates_X3_leastWorst rfl rfl rfl (by decide +kernel) ⟨(Nat.le_of_ble_eq_true rfl), (Nat.le_of_ble_eq_true rfl)⟩) (pre_VX hKX hP hD hSF hS hA (ci := 3) (q0 := 1) rfl rfl [1, 2] rfl (by decide) rfl) rfl rfl hl.1 rfl (lv_room (Nat.le_of_ble_eq_true rfl)) dX3_lookAtAllStates_78 ⟨(Nat.le_of_ble_eq_true rfl), (Nat.le_of_ble_eq_true rfl)⟩) hP hD hS hA [1, 2] [0] rfl rfl (by decide) (by decide) (fun u2 H locs _ hP hD hS => ?_)
  have hP : va_P D vwCl [(le, .inl (cy 0, 14641, .inl (fun _ => 0))), (h, .inr (3, [.int (-1), .int 0, .ref ta, .int 200, .ref lf, .ref li, .ref le])), (lf, .inl (cy 0, 4, .inl (upd (upd (upd (upd (fun _ => 0) 0 0) 1 0) 2 0) 3 0)))] H := hP
  have hD : va_D A [(le, .inl (cy 0, 14641, .inl (fun _ => 0))), (h, .inr (3, [.int (-1), .int 0, .ref ta, .int 200, .ref lf, .ref li, .ref le])), (lf, .inl (cy 0, 4, .inl (upd (upd (upd (upd (fun _ => 0) 0 0) 1 0) 2 0) 3 0)))] := hD
  refine va_iast hx hb hKX.1 hP hD hS 0 0 rfl rfl (vind (by decide)) dX3_lookAtAllStates_81 (fun H locs hP hD hS => ?_)
  have hP : va_P D vwCl [(le, .inl (cy 0, 14641, .inl (upd (fun _ => 0) 0 0))), (h, .inr (3, [.int (-1), .int 0, .ref ta, .int 200, .ref lf, .ref li, .ref le])), (lf, .inl (cy 0, 4, .inl (upd (upd (upd (upd (fun _ => 0) 0 0) 1 0) 2 0) 3 0)))] H := hP
  have hD : va_D A [(le, .inl (cy 0, 14641, .inl (upd (fun _ => 0) 0 0))), (h, .inr (3, [.int (-1), .int 0, .ref ta, .int 200, .ref lf, .ref li, .ref le])), (lf, .inl (cy 0, 4, .inl (upd (upd (upd (upd (fun _ => 0) 0 0) 1 0) 2 0) 3 0)))] := hD
  refine lv_iinc (v := 1) (lv' := [(8, .int 1), (7, .int 0), (6, .int 0), (5, .int 0), (0, .ref h), (1, .int 0), (2, .int 0), (3, .int 0), (4, .int 0)]) hx hb dX3_lookAtAllStates_82 hl (k := 0) rfl (by decide) (by decide) rfl (fun ls hl => ?_)
  refine lv_goto (tgt := 54) hx hb dX3_lookAtAllStates_85 (by decide) ?_
  refine lv_iload hx hb dX3_lookAtAllStates_54 (lv_at hl 0 rfl) ?_
  refine lv_iload hx hb dX3_lookAtAllStates_56 (lv_at hl 8 rfl) ?_
  refine lv_icmp_gt (tgt := 88) hx hb dX3_lookAtAllStates_58 (by decide) (fun _ => ?_) (fun c9 => absurd (by decide) c9)
  refine lv_iinc (v := 1) (lv' := [(7, .int 1), (8, .int 1), (6, .int 0), (5, .int 0), (0, .ref h), (1, .int 0), (2, .int 0), (3, .int 0), (4, .int 0)]) hx hb dX3_lookAtAllStates_88 hl (k := 1) rfl (by decide) (by decide) rfl (fun ls hl => ?_)
  refine lv_goto (tgt := 37) hx hb dX3_lookAtAllStates_91 (by decide) ?_
  refine lv_iload hx hb dX3_lookAtAllStates_37 (lv_at hl 0 rfl) ?_
  refine lv_iload_n hx hb dX3_lookAtAllStates_39 rfl (lv_at hl 7 rfl) ?_
  refine lv_icmp_gt (tgt := 94) hx hb dX3_lookAtAllStates_40 (by decide) (fun _ => ?_) (fun c9 => absurd (by decide) c9)
  refine lv_iinc (v := 1) (lv' := [(6, .int 1), (7, .int 1), (8, .int 1), (5, .int 0), (0, .ref h), (1, .int 0), (2, .int 0), (3, .int 0), (4, .int 0)]) hx hb dX3_lookAtAllStates_94 hl (k := 2) rfl (by decide) (by decide) rfl (fun ls hl => ?_)
  refine lv_goto (tgt := 20) hx hb dX3_lookAtAllStates_97 (by decide) ?_
  refine lv_iload hx hb dX3_lookAtAllStates_20 (lv_at hl 0 rfl) ?_
  refine lv_iload_n hx hb dX3_lookAtAllStates_22 rfl (lv_at hl 6 rfl) ?_
  refine lv_icmp_gt (tgt := 100) hx hb dX3_lookAtAllStates_23 (by decide) (fun _ => ?_) (fun c9 => absurd (by decide) c9)
  refine lv_iinc (v := 1) (lv' := [(5, .int 1), (6, .int 1), (7, .int 1), (8, .int 1), (0, .ref h), (1, .int 0), (2, .int 0), (3, .int 0), (4, .int 0)]) hx hb dX3_lookAtAllStates_100 hl (k := 3) rfl (by decide) (by decide) rfl (fun ls hl => ?_)
  refine lv_goto (tgt := 3) hx hb dX3_lookAtAllStates_103 (by decide) ?_
  refine lv_iload hx hb dX3_lookAtAllStates_3 (lv_at hl 0 rfl) ?_
  refine lv_iload_n hx hb dX3_lookAtAllStates_5 rfl (lv_at hl 5 rfl) ?_
  refine lv_icmp_gt (tgt := 106) hx hb dX3_lookAtAllStates_6 (by decide) (fun _ => ?_) (fun c9 => absurd (by decide) c9)
  exact en_v hx hb hr hlocks () trivial (hP.sub [0, 1, 2] rfl) (hD.sub [0, 1, 2] (by decide) rfl) hS (Nat.le_of_ble_eq_true rfl) (Nat.le_of_ble_eq_true rfl) dX3_lookAtAllStates_106
theorem iw_X3_findBest_X2 : ∀ w ∈ wsX20, w ∈ wsX3_findBest := by decide +kernel
theorem iw_X3_findBest_X8 : ∀ w ∈ wsX80, w ∈ wsX3_findBest := by decide +kernel
theorem iw_X3_findBest_X3 : ∀ w ∈ wsX30, w ∈ wsX3_findBest := by decide +kernel
theorem iw_X3_findBest_X5 : ∀ w ∈ wsX50, w ∈ wsX3_findBest := by decide +kernel
set_option maxHeartbeats 4000000 in
set_option maxRecDepth 100000 in
theorem c_ES_findBest (l : Launch) (D : va_G) (cy : Nat → ClassId) (tS : Nat) (h : Nat) (ta : Nat) (lf : Nat) (li : Nat) (le : Nat) (xh : Nat) (xq : Nat → Nat) (sz : Nat) : Met l yX3_findBest wsX3_findBest ({ frames := 3, cells := 0, slots := 0, locals := 74 }) (wPreX D cy tS [.ref h, .ref (xq 23)] sz [(h, .inr (3, [.int (-1), .int 0, .ref ta, .int 0, .ref lf, .ref li, .ref le])), (lf, .inl (cy 0, 4, .inl (fun _ => 0))), (li, .inl (cy 0, 44, .inl (fun _ => 0))), (le, .inl (cy 0, 14641, .inl (fun _ => 0))), (ta, .inl (cy 0, 40, .inl (fun _ => 0))), (xc24 cy xh xq), (xc25 cy xh xq), (xc26 cy xh xq), (xc28 cy xh xq), (xc30 cy xh xq), (xc32 cy xh xq), (xc34 cy xh xq)]) (wQv D (fun _ : Unit => True) (fun _u : Unit => [(h, .inr (3, [.int 0, .int 0, .ref ta, .int 200, .ref lf, .ref li, .ref le]))]) (va_A [(h, .inr (3, [.int (-1), .int 0, .ref ta, .int 0, .ref lf, .ref li, .ref le])), (lf, .inl (cy 0, 4, .inl (fun _ => 0))), (li, .inl (cy 0, 44, .inl (fun _ => 0))), (le, .inl (cy 0, 14641, .inl (fun _ => 0))), (ta, .inl (cy 0, 40, .inl (fun _ => 0))), (xc24 cy xh xq), (xc25 cy xh xq), (xc26 cy xh xq), (xc28 cy xh xq), (xc30 cy xh xq), (xc32 cy xh xq), (xc34 cy xh xq)] sz)) 0 0 (va_A [(h, .inr (3, [.int (-1), .int 0, .ref ta, .int 0, .ref lf, .ref li, .ref le])), (lf, .inl (cy 0, 4, .inl (fun _ => 0))), (li, .inl (cy 0, 44, .inl (fun _ => 0))), (le, .inl (cy 0, 14641, .inl (fun _ => 0))), (ta, .inl (cy 0, 40, .inl (fun _ => 0))), (xc24 cy xh xq), (xc25 cy xh xq), (xc26 cy xh xq), (xc28 cy xh xq), (xc30 cy xh xq), (xc32 cy xh xq), (xc34 cy xh xq)] sz) := by
  refine met_goX (y := yX3_findBest) (ws := wsX3_findBest) (av := [.ref h, .ref (xq 23)]) (cc := cX3_findBest) (maxL := 4) (ret := none) (Qc := fun A => wQv D (fun _ : Unit => True) (fun _u : Unit => [(h, .inr (3, [.int 0, .int 0, .ref ta, .int 200, .ref lf, .ref li, .ref le]))]) A) (by decide) rfl (Nat.le_of_ble_eq_true rfl) ?_
  intro p e s m below meth c ls A hx hb hr hml hown hts hlocks hname hKX hSF hP hD hA hS hl
  have hown : s.vm.findClass RX3 = some m.cls := hown
  have hl : lv_has ls 4 [(0, .ref h), (1, .ref (xq 23))] := hl
  refine lv_aload_n hx hb dX3_findBest_0 rfl (lv_at hl 0 rfl) ?_
  refine lv_aload_n hx hb dX3_findBest_1 rfl (lv_at hl 1 rfl) ?_
  refine va_get (D := D) (ci := 2) (v := .ref (xq 33)) (C := RX2) (T := TX2) (N := 2) hx hb hts iw_X3_findBest_X2 hown hKX.1 hP 5 rfl rfl 1 (by decide) (hts (.fieldLink RX3 34 "TrainFerry$Deck" "tally" "LTrainFerry$Tally;") (by decide +kernel)) (fun _ h9 => h9) rfl dX3_findBest_2 ?_
  refine va_get (D := D) (ci := 8) (v := .int 200) (C := RX8) (T := TX8) (N := 10) hx hb hts iw_X3_findBest_X8 hown hKX.1 hP 11 rfl rfl 9 (by decide) (hts (.fieldLink RX3 40 "TrainFerry$Tally" "limit" "I") (by decide +kernel)) (fun _ h9 => h9) rfl dX3_findBest_5 ?_
  refine va_put (D := D) (ci := 3) (v := .int 200) (ty := .int) (C := RX3) (T := TX3) (N := 7) hx hb hts iw_X3_findBest_X3 tyX3 tyX3_ok nmX3 hown hKX.1 hP hD hS 0 rfl rfl 3 (by decide) (hts (.fieldLink RX3 22 "TrainFerry$EmptyingSearch" "limit" "I") (by decide +kernel)) (fun _ h9 => h9) rfl (by decide +kernel) rfl rfl (Nat.le_of_ble_eq_true rfl) dX3_findBest_8 (fun H locs hP hD hS => ?_)
  have hP : va_P D vwCl [(h, .inr (3, [.int (-1), .int 0, .ref ta, .int 200, .ref lf, .ref li, .ref le])), (lf, .inl (cy 0, 4, .inl (fun _ => 0))), (li, .inl (cy 0, 44, .inl (fun _ => 0))), (le, .inl (cy 0, 14641, .inl (fun _ => 0))), (ta, .inl (cy 0, 40, .inl (fun _ => 0))), (xc24 cy xh xq), (xc25 cy xh xq), (xc26 cy xh xq), (xc28 cy xh xq), (xc30 cy xh xq), (xc32 cy xh xq), (xc34 cy xh xq)] H := hP
  have hD : va_D A [(h, .inr (3, [.int (-1), .int 0, .ref ta, .int 200, .ref lf, .ref li, .ref le])), (lf, .inl (cy 0, 4, .inl (fun _ => 0))), (li, .inl (cy 0, 44, .inl (fun _ => 0))), (le, .inl (cy 0, 14641, .inl (fun _ => 0))), (ta, .inl (cy 0, 40, .inl (fun _ => 0))), (xc24 cy xh xq), (xc25 cy xh xq), (xc26 cy xh xq), (xc28 cy xh xq), (xc30 cy xh xq), (xc32 cy xh xq), (xc34 cy xh xq)] := hD
  refine lv_iconst (v := 0) hx hb dX3_findBest_11 (by decide) ?_
  refine lv_istore_n (lv' := [(2, .int 0), (0, .ref h), (1, .ref (xq 23))]) hx hb dX3_findBest_12 rfl hl (by decide) rfl (fun ls hl => ?_)
  refine lv_iload_n hx hb dX3_findBest_13 rfl (lv_at hl 0 rfl) ?_
  refine lv_iconst (v := 4) hx hb dX3_findBest_14 (by decide) ?_
  refine lv_icmp_ge (tgt := 35) hx hb dX3_findBest_15 (by decide) (fun c9 => absurd c9 (by decide)) (fun _ => ?_)
  refine lv_aload_n hx hb dX3_findBest_18 rfl (lv_at hl 1 rfl) ?_
  refine lv_iload_n hx hb dX3_findBest_19 rfl (lv_at hl 0 rfl) ?_
  refine lv_aload_n hx hb dX3_findBest_20 rfl (lv_at hl 2 rfl) ?_
  refine va_get (D := D) (ci := 2) (v := .ref (xq 24)) (C := RX2) (T := TX2) (N := 2) hx hb hts iw_X3_findBest_X2 hown hKX.1 hP 5 rfl rfl 0 (by decide) (hts (.fieldLink RX3 43 "TrainFerry$Deck" "rows" "[LTrainFerry$Row;") (by decide +kernel)) (fun _ h9 => h9) rfl dX3_findBest_21 ?_
  refine lv_iload_n hx hb dX3_findBest_24 rfl (lv_at hl 0 rfl) ?_
  refine va_aldq hx hb hKX.1 hP 6 4 rfl rfl (vind (by decide)) dX3_findBest_25 ?_
  refine lv_csv (.ref (xq 25)) rfl ?_
  refine cl_v (wr := [(lf, .inl (cy 0, 4, .inl (fun _ => 0))), (le, .inl (cy 0, 14641, .inl (fun _ => 0))), (ta, .inl (cy 0, 40, .inl (fun _ => 0))), (xc24 cy xh xq), (xc25 cy xh xq), (xc28 cy xh xq), (xc30 cy xh xq), (xc32 cy xh xq), (xc34 cy xh xq)]) (va_runV (As := [.int 0, .ref (xq 25)]) (rest := []) ⟨hx, hb, hml, hown, hts⟩ (c_sumLists_0 l D cy h ta lf li le (xq 25) (xq 26) _) (cwV 2 hts gX3_findBest_X3_sumLists rfl rfl rfl (by decide +kernel) ⟨(Nat.le_of_ble_eq_true rfl), (Nat.le_of_ble_eq_true rfl)⟩) (pre_V hKX hP hD (ci := 3) (q0 := 0) rfl rfl [0, 2, 7] rfl (by decide) rfl) rfl rfl hl.1 rfl (lv_room (Nat.le_of_ble_eq_true rfl)) dX3_findBest_26 ⟨(Nat.le_of_ble_eq_true rfl), (Nat.le_of_ble_eq_true rfl)⟩) hP hD hS hA [0, 2, 7] [1, 3, 4, 5, 6, 8, 9, 10, 11] rfl rfl (by decide) (by decide) (fun u1 H locs _ hP hD hS => ?_)
  have hP : va_P D vwCl [(lf, .inl (cy 0, 4, .inl (fun _ => 0))), (le, .inl (cy 0, 14641, .inl (fun _ => 0))), (ta, .inl (cy 0, 40, .inl (fun _ => 0))), (xc24 cy xh xq), (xc25 cy xh xq), (xc28 cy xh xq), (xc30 cy xh xq), (xc32 cy xh xq), (xc34 cy xh xq), (h, .inr (3, [.int (-1), .int 0, .ref ta, .int 200, .ref lf, .ref li, .ref le])), (li, .inl (cy 0, 44, .inl (upd (fun _ => 0) 0 0))), ((xq 25), .inr (5, [.ref (xq 26), .int 0, .int 0]))] H := hP
  have hD : va_D A [(lf, .inl (cy 0, 4, .inl (fun _ => 0))), (le, .inl (cy 0, 14641, .inl (fun _ => 0))), (ta, .inl (cy 0, 40, .inl (fun _ => 0))), (xc24 cy xh xq), (xc25 cy xh xq), (xc28 cy xh xq), (xc30 cy xh xq), (xc32 cy xh xq), (xc34 cy xh xq), (h, .inr (3, [.int (-1), .int 0, .ref ta, .int 200, .ref lf, .ref li, .ref le])), (li, .inl (cy 0, 44, .inl (upd (fun _ => 0) 0 0))), ((xq 25), .inr (5, [.ref (xq 26), .int 0, .int 0]))] := hD
  refine lv_iinc (v := 1) (lv' := [(2, .int 1), (0, .ref h), (1, .ref (xq 23))]) hx hb dX3_findBest_29 hl (k := 0) rfl (by decide) (by decide) rfl (fun ls hl => ?_)
  refine lv_goto (tgt := 13) hx hb dX3_findBest_32 (by decide) ?_
  refine lv_iload_n hx hb dX3_findBest_13 rfl (lv_at hl 0 rfl) ?_
  refine lv_iconst (v := 4) hx hb dX3_findBest_14 (by decide) ?_
  refine lv_icmp_ge (tgt := 35) hx hb dX3_findBest_15 (by decide) (fun c9 => absurd c9 (by decide)) (fun _ => ?_)
  refine lv_aload_n hx hb dX3_findBest_18 rfl (lv_at hl 1 rfl) ?_
  refine lv_iload_n hx hb dX3_findBest_19 rfl (lv_at hl 0 rfl) ?_
  refine lv_aload_n hx hb dX3_findBest_20 rfl (lv_at hl 2 rfl) ?_
  refine va_get (D := D) (ci := 2) (v := .ref (xq 24)) (C := RX2) (T := TX2) (N := 2) hx hb hts iw_X3_findBest_X2 hown hKX.1 hP 3 rfl rfl 0 (by decide) (hts (.fieldLink RX3 43 "TrainFerry$Deck" "rows" "[LTrainFerry$Row;") (by decide +kernel)) (fun _ h9 => h9) rfl dX3_findBest_21 ?_
  refine lv_iload_n hx hb dX3_findBest_24 rfl (lv_at hl 0 rfl) ?_
  refine va_aldq hx hb hKX.1 hP 4 4 rfl rfl (vind (by decide)) dX3_findBest_25 ?_
  refine lv_csv (.ref (xq 27)) rfl ?_
  refine cl_v (wr := [(lf, .inl (cy 0, 4, .inl (fun _ => 0))), (le, .inl (cy 0, 14641, .inl (fun _ => 0))), (ta, .inl (cy 0, 40, .inl (fun _ => 0))), (xc24 cy xh xq), (xc25 cy xh xq), (xc30 cy xh xq), (xc32 cy xh xq), (xc34 cy xh xq), ((xq 25), .inr (5, [.ref (xq 26), .int 0, .int 0]))]) (va_runV (As := [.int 1, .ref (xq 27)]) (rest := []) ⟨hx, hb, hml, hown, hts⟩ (c_sumLists_1 l D cy h ta lf li le (xq 27) (xq 28) _) (cwV 2 hts gX3_findBest_X3_sumLists rfl rfl rfl (by decide +kernel) ⟨(Nat.le_of_ble_eq_true rfl), (Nat.le_of_ble_eq_true rfl)⟩) (pre_V hKX hP hD (ci := 3) (q0 := 9) rfl rfl [9, 10, 5] rfl (by decide) rfl) rfl rfl hl.1 rfl (lv_room (Nat.le_of_ble_eq_true rfl)) dX3_findBest_26 ⟨(Nat.le_of_ble_eq_true rfl), (Nat.le_of_ble_eq_true rfl)⟩) hP hD hS hA [9, 10, 5] [0, 1, 2, 3, 4, 6, 7, 8, 11] rfl rfl (by decide) (by decide) (fun u2 H locs _ hP hD hS => ?_)
  have hP : va_P D vwCl [(lf, .inl (cy 0, 4, .inl (fun _ => 0))), (le, .inl (cy 0, 14641, .inl (fun _ => 0))), (ta, .inl (cy 0, 40, .inl (fun _ => 0))), (xc24 cy xh xq), (xc25 cy xh xq), (xc30 cy xh xq), (xc32 cy xh xq), (xc34 cy xh xq), ((xq 25), .inr (5, [.ref (xq 26), .int 0, .int 0])), (h, .inr (3, [.int (-1), .int 0, .ref ta, .int 200, .ref lf, .ref li, .ref le])), (li, .inl (cy 0, 44, .inl (upd (upd (fun _ => 0) 0 0) 11 0))), ((xq 27), .inr (5, [.ref (xq 28), .int 0, .int 0]))] H := hP
  have hD : va_D A [(lf, .inl (cy 0, 4, .inl (fun _ => 0))), (le, .inl (cy 0, 14641, .inl (fun _ => 0))), (ta, .inl (cy 0, 40, .inl (fun _ => 0))), (xc24 cy xh xq), (xc25 cy xh xq), (xc30 cy xh xq), (xc32 cy xh xq), (xc34 cy xh xq), ((xq 25), .inr (5, [.ref (xq 26), .int 0, .int 0])), (h, .inr (3, [.int (-1), .int 0, .ref ta, .int 200, .ref lf, .ref li, .ref le])), (li, .inl (cy 0, 44, .inl (upd (upd (fun _ => 0) 0 0) 11 0))), ((xq 27), .inr (5, [.ref (xq 28), .int 0, .int 0]))] := hD
  refine lv_iinc (v := 2) (lv' := [(2, .int 2), (0, .ref h), (1, .ref (xq 23))]) hx hb dX3_findBest_29 hl (k := 0) rfl (by decide) (by decide) rfl (fun ls hl => ?_)
  refine lv_goto (tgt := 13) hx hb dX3_findBest_32 (by decide) ?_
  refine lv_iload_n hx hb dX3_findBest_13 rfl (lv_at hl 0 rfl) ?_
  refine lv_iconst (v := 4) hx hb dX3_findBest_14 (by decide) ?_
  refine lv_icmp_ge (tgt := 35) hx hb dX3_findBest_15 (by decide) (fun c9 => absurd c9 (by decide)) (fun _ => ?_)
  refine lv_aload_n hx hb dX3_findBest_18 rfl (lv_at hl 1 rfl) ?_
  refine lv_iload_n hx hb dX3_findBest_19 rfl (lv_at hl 0 rfl) ?_
  refine lv_aload_n hx hb dX3_findBest_20 rfl (lv_at hl 2 rfl) ?_
  refine va_get (D := D) (ci := 2) (v := .ref (xq 24)) (C := RX2) (T := TX2) (N := 2) hx hb hts iw_X3_findBest_X2 hown hKX.1 hP 3 rfl rfl 0 (by decide) (hts (.fieldLink RX3 43 "TrainFerry$Deck" "rows" "[LTrainFerry$Row;") (by decide +kernel)) (fun _ h9 => h9) rfl dX3_findBest_21 ?_
  refine lv_iload_n hx hb dX3_findBest_24 rfl (lv_at hl 0 rfl) ?_
  refine va_aldq hx hb hKX.1 hP 4 4 rfl rfl (vind (by decide)) dX3_findBest_25 ?_
  refine lv_csv (.ref (xq 29)) rfl ?_
  refine cl_v (wr := [(lf, .inl (cy 0, 4, .inl (fun _ => 0))), (le, .inl (cy 0, 14641, .inl (fun _ => 0))), (ta, .inl (cy 0, 40, .inl (fun _ => 0))), (xc24 cy xh xq), (xc25 cy xh xq), (xc32 cy xh xq), (xc34 cy xh xq), ((xq 25), .inr (5, [.ref (xq 26), .int 0, .int 0])), ((xq 27), .inr (5, [.ref (xq 28), .int 0, .int 0]))]) (va_runV (As := [.int 2, .ref (xq 29)]) (rest := []) ⟨hx, hb, hml, hown, hts⟩ (c_sumLists_2 l D cy h ta lf li le (xq 29) (xq 30) _) (cwV 2 hts gX3_findBest_X3_sumLists rfl rfl rfl (by decide +kernel) ⟨(Nat.le_of_ble_eq_true rfl), (Nat.le_of_ble_eq_true rfl)⟩) (pre_V hKX hP hD (ci := 3) (q0 := 9) rfl rfl [9, 10, 5] rfl (by decide) rfl) rfl rfl hl.1 rfl (lv_room (Nat.le_of_ble_eq_true rfl)) dX3_findBest_26 ⟨(Nat.le_of_ble_eq_true rfl), (Nat.le_of_ble_eq_true rfl)⟩) hP hD hS hA [9, 10, 5] [0, 1, 2, 3, 4, 6, 7, 8, 11] rfl rfl (by decide) (by decide) (fun u3 H locs _ hP hD hS => ?_)
  have hP : va_P D vwCl [(lf, .inl (cy 0, 4, .inl (fun _ => 0))), (le, .inl (cy 0, 14641, .inl (fun _ => 0))), (ta, .inl (cy 0, 40, .inl (fun _ => 0))), (xc24 cy xh xq), (xc25 cy xh xq), (xc32 cy xh xq), (xc34 cy xh xq), ((xq 25), .inr (5, [.ref (xq 26), .int 0, .int 0])), ((xq 27), .inr (5, [.ref (xq 28), .int 0, .int 0])), (h, .inr (3, [.int (-1), .int 0, .ref ta, .int 200, .ref lf, .ref li, .ref le])), (li, .inl (cy 0, 44, .inl (upd (upd (upd (fun _ => 0) 0 0) 11 0) 22 0))), ((xq 29), .inr (5, [.ref (xq 30), .int 0, .int 0]))] H := hP
  have hD : va_D A [(lf, .inl (cy 0, 4, .inl (fun _ => 0))), (le, .inl (cy 0, 14641, .inl (fun _ => 0))), (ta, .inl (cy 0, 40, .inl (fun _ => 0))), (xc24 cy xh xq), (xc25 cy xh xq), (xc32 cy xh xq), (xc34 cy xh xq), ((xq 25), .inr (5, [.ref (xq 26), .int 0, .int 0])), ((xq 27), .inr (5, [.ref (xq 28), .int 0, .int 0])), (h, .inr (3, [.int (-1), .int 0, .ref ta, .int 200, .ref lf, .ref li, .ref le])), (li, .inl (cy 0, 44, .inl (upd (upd (upd (fun _ => 0) 0 0) 11 0) 22 0))), ((xq 29), .inr (5, [.ref (xq 30), .int 0, .int 0]))] := hD
  refine lv_iinc (v := 3) (lv' := [(2, .int 3), (0, .ref h), (1, .ref (xq 23))]) hx hb dX3_findBest_29 hl (k := 0) rfl (by decide) (by decide) rfl (fun ls hl => ?_)
  refine lv_goto (tgt := 13) hx hb dX3_findBest_32 (by decide) ?_
  refine lv_iload_n hx hb dX3_findBest_13 rfl (lv_at hl 0 rfl) ?_
  refine lv_iconst (v := 4) hx hb dX3_findBest_14 (by decide) ?_
  refine lv_icmp_ge (tgt := 35) hx hb dX3_findBest_15 (by decide) (fun c9 => absurd c9 (by decide)) (fun _ => ?_)
  refine lv_aload_n hx hb dX3_findBest_18 rfl (lv_at hl 1 rfl) ?_
  refine lv_iload_n hx hb dX3_findBest_19 rfl (lv_at hl 0 rfl) ?_
  refine lv_aload_n hx hb dX3_findBest_20 rfl (lv_at hl 2 rfl) ?_
  refine va_get (D := D) (ci := 2) (v := .ref (xq 24)) (C := RX2) (T := TX2) (N := 2) hx hb hts iw_X3_findBest_X2 hown hKX.1 hP 3 rfl rfl 0 (by decide) (hts (.fieldLink RX3 43 "TrainFerry$Deck" "rows" "[LTrainFerry$Row;") (by decide +kernel)) (fun _ h9 => h9) rfl dX3_findBest_21 ?_
  refine lv_iload_n hx hb dX3_findBest_24 rfl (lv_at hl 0 rfl) ?_
  refine va_aldq hx hb hKX.1 hP 4 4 rfl rfl (vind (by decide)) dX3_findBest_25 ?_
  refine lv_csv (.ref (xq 31)) rfl ?_
  refine cl_v (wr := [(lf, .inl (cy 0, 4, .inl (fun _ => 0))), (le, .inl (cy 0, 14641, .inl (fun _ => 0))), (ta, .inl (cy 0, 40, .inl (fun _ => 0))), (xc24 cy xh xq), (xc25 cy xh xq), (xc34 cy xh xq), ((xq 25), .inr (5, [.ref (xq 26), .int 0, .int 0])), ((xq 27), .inr (5, [.ref (xq 28), .int 0, .int 0])), ((xq 29), .inr (5, [.ref (xq 30), .int 0, .int 0]))]) (va_runV (As := [.int 3, .ref (xq 31)]) (rest := []) ⟨hx, hb, hml, hown, hts⟩ (c_sumLists_3 l D cy h ta lf li le (xq 31) (xq 32) _) (cwV 2 hts gX3_findBest_X3_sumLists rfl rfl rfl (by decide +kernel) ⟨(Nat.le_of_ble_eq_true rfl), (Nat.le_of_ble_eq_true rfl)⟩) (pre_V hKX hP hD (ci := 3) (q0 := 9) rfl rfl [9, 10, 5] rfl (by decide) rfl) rfl rfl hl.1 rfl (lv_room (Nat.le_of_ble_eq_true rfl)) dX3_findBest_26 ⟨(Nat.le_of_ble_eq_true rfl), (Nat.le_of_ble_eq_true rfl)⟩) hP hD hS hA [9, 10, 5] [0, 1, 2, 3, 4, 6, 7, 8, 11] rfl rfl (by decide) (by decide) (fun u4 H locs _ hP hD hS => ?_)
  have hP : va_P D vwCl [(lf, .inl (cy 0, 4, .inl (fun _ => 0))), (le, .inl (cy 0, 14641, .inl (fun _ => 0))), (ta, .inl (cy 0, 40, .inl (fun _ => 0))), (xc24 cy xh xq), (xc25 cy xh xq), (xc34 cy xh xq), ((xq 25), .inr (5, [.ref (xq 26), .int 0, .int 0])), ((xq 27), .inr (5, [.ref (xq 28), .int 0, .int 0])), ((xq 29), .inr (5, [.ref (xq 30), .int 0, .int 0])), (h, .inr (3, [.int (-1), .int 0, .ref ta, .int 200, .ref lf, .ref li, .ref le])), (li, .inl (cy 0, 44, .inl (upd (upd (upd (upd (fun _ => 0) 0 0) 11 0) 22 0) 33 0))), ((xq 31), .inr (5, [.ref (xq 32), .int 0, .int 0]))] H := hP
  have hD : va_D A [(lf, .inl (cy 0, 4, .inl (fun _ => 0))), (le, .inl (cy 0, 14641, .inl (fun _ => 0))), (ta, .inl (cy 0, 40, .inl (fun _ => 0))), (xc24 cy xh xq), (xc25 cy xh xq), (xc34 cy xh xq), ((xq 25), .inr (5, [.ref (xq 26), .int 0, .int 0])), ((xq 27), .inr (5, [.ref (xq 28), .int 0, .int 0])), ((xq 29), .inr (5, [.ref (xq 30), .int 0, .int 0])), (h, .inr (3, [.int (-1), .int 0, .ref ta, .int 200, .ref lf, .ref li, .ref le])), (li, .inl (cy 0, 44, .inl (upd (upd (upd (upd (fun _ => 0) 0 0) 11 0) 22 0) 33 0))), ((xq 31), .inr (5, [.ref (xq 32), .int 0, .int 0]))] := hD
  refine lv_iinc (v := 4) (lv' := [(2, .int 4), (0, .ref h), (1, .ref (xq 23))]) hx hb dX3_findBest_29 hl (k := 0) rfl (by decide) (by decide) rfl (fun ls hl => ?_)
  refine lv_goto (tgt := 13) hx hb dX3_findBest_32 (by decide) ?_
  refine lv_iload_n hx hb dX3_findBest_13 rfl (lv_at hl 0 rfl) ?_
  refine lv_iconst (v := 4) hx hb dX3_findBest_14 (by decide) ?_
  refine lv_icmp_ge (tgt := 35) hx hb dX3_findBest_15 (by decide) (fun _ => ?_) (fun c9 => absurd (by decide) c9)
  refine lv_aload_n hx hb dX3_findBest_35 rfl (lv_at hl 1 rfl) ?_
  refine lv_aload_n hx hb dX3_findBest_36 rfl (lv_at hl 2 rfl) ?_
  refine va_get (D := D) (ci := 2) (v := .ref (xq 24)) (C := RX2) (T := TX2) (N := 2) hx hb hts iw_X3_findBest_X2 hown hKX.1 hP 3 rfl rfl 0 (by decide) (hts (.fieldLink RX3 43 "TrainFerry$Deck" "rows" "[LTrainFerry$Row;") (by decide +kernel)) (fun _ h9 => h9) rfl dX3_findBest_37 ?_
  refine lv_iconst (v := 0) hx hb dX3_findBest_40 (by decide) ?_
  refine va_aldq hx hb hKX.1 hP 4 4 rfl rfl (vind (by decide)) dX3_findBest_41 ?_
  refine lv_csv (.ref (xq 25)) rfl ?_
  refine va_get (D := D) (ci := 5) (v := .int 0) (C := RX5) (T := TX5) (N := 3) hx hb hts iw_X3_findBest_X5 hown hKX.1 hP 6 rfl rfl 1 (by decide) (hts (.fieldLink RX3 51 "TrainFerry$Row" "size" "I") (by decide +kernel)) (fun _ h9 => h9) rfl dX3_findBest_42 ?_
  refine lv_aload_n hx hb dX3_findBest_45 rfl (lv_at hl 2 rfl) ?_
  refine va_get (D := D) (ci := 2) (v := .ref (xq 24)) (C := RX2) (T := TX2) (N := 2) hx hb hts iw_X3_findBest_X2 hown hKX.1 hP 3 rfl rfl 0 (by decide) (hts (.fieldLink RX3 43 "TrainFerry$Deck" "rows" "[LTrainFerry$Row;") (by decide +kernel)) (fun _ h9 => h9) rfl dX3_findBest_46 ?_
  refine lv_iconst (v := 1) hx hb dX3_findBest_49 (by decide) ?_
  refine va_aldq hx hb hKX.1 hP 4 4 rfl rfl (vind (by decide)) dX3_findBest_50 ?_
  refine lv_csv (.ref (xq 27)) rfl ?_
  refine va_get (D := D) (ci := 5) (v := .int 0) (C := RX5) (T := TX5) (N := 3) hx hb hts iw_X3_findBest_X5 hown hKX.1 hP 7 rfl rfl 1 (by decide) (hts (.fieldLink RX3 51 "TrainFerry$Row" "size" "I") (by decide +kernel)) (fun _ h9 => h9) rfl dX3_findBest_51 ?_
  refine lv_aload_n hx hb dX3_findBest_54 rfl (lv_at hl 2 rfl) ?_
  refine va_get (D := D) (ci := 2) (v := .ref (xq 24)) (C := RX2) (T := TX2) (N := 2) hx hb hts iw_X3_findBest_X2 hown hKX.1 hP 3 rfl rfl 0 (by decide) (hts (.fieldLink RX3 43 "TrainFerry$Deck" "rows" "[LTrainFerry$Row;") (by decide +kernel)) (fun _ h9 => h9) rfl dX3_findBest_55 ?_
  refine lv_iconst (v := 2) hx hb dX3_findBest_58 (by decide) ?_
  refine va_aldq hx hb hKX.1 hP 4 4 rfl rfl (vind (by decide)) dX3_findBest_59 ?_
  refine lv_csv (.ref (xq 29)) rfl ?_
  refine va_get (D := D) (ci := 5) (v := .int 0) (C := RX5) (T := TX5) (N := 3) hx hb hts iw_X3_findBest_X5 hown hKX.1 hP 8 rfl rfl 1 (by decide) (hts (.fieldLink RX3 51 "TrainFerry$Row" "size" "I") (by decide +kernel)) (fun _ h9 => h9) rfl dX3_findBest_60 ?_
  refine lv_aload_n hx hb dX3_findBest_63 rfl (lv_at hl 2 rfl) ?_
  refine va_get (D := D) (ci := 2) (v := .ref (xq 24)) (C := RX2) (T := TX2) (N := 2) hx hb hts iw_X3_findBest_X2 hown hKX.1 hP 3 rfl rfl 0 (by decide) (hts (.fieldLink RX3 43 "TrainFerry$Deck" "rows" "[LTrainFerry$Row;") (by decide +kernel)) (fun _ h9 => h9) rfl dX3_findBest_64 ?_
  refine lv_iconst (v := 3) hx hb dX3_findBest_67 (by decide) ?_
  refine va_aldq hx hb hKX.1 hP 4 4 rfl rfl (vind (by decide)) dX3_findBest_68 ?_
  refine lv_csv (.ref (xq 31)) rfl ?_
  refine va_get (D := D) (ci := 5) (v := .int 0) (C := RX5) (T := TX5) (N := 3) hx hb hts iw_X3_findBest_X5 hown hKX.1 hP 11 rfl rfl 1 (by decide) (hts (.fieldLink RX3 51 "TrainFerry$Row" "size" "I") (by decide +kernel)) (fun _ h9 => h9) rfl dX3_findBest_69 ?_
  refine cl_v (wr := [(ta, .inl (cy 0, 40, .inl (fun _ => 0))), (xc24 cy xh xq), (xc25 cy xh xq), (xc34 cy xh xq), ((xq 25), .inr (5, [.ref (xq 26), .int 0, .int 0])), ((xq 27), .inr (5, [.ref (xq 28), .int 0, .int 0])), ((xq 29), .inr (5, [.ref (xq 30), .int 0, .int 0])), (li, .inl (cy 0, 44, .inl (upd (upd (upd (upd (fun _ => 0) 0 0) 11 0) 22 0) 33 0))), ((xq 31), .inr (5, [.ref (xq 32), .int 0, .int 0]))]) (va_runV (As := [.int 0, .int 0, .int 0, .int 0]) (rest := []) ⟨hx, hb, hml, hown, hts⟩ (c_lookAll l D cy _ h ta lf li le _) (cwV 4 hts gX3_findBest_X3_lookAtAllStates rfl rfl rfl (by decide +kernel) ⟨(Nat.le_of_ble_eq_true rfl), (Nat.le_of_ble_eq_true rfl)⟩) (pre_VX hKX hP hD hSF hS hA (ci := 3) (q0 := 9) rfl rfl [9, 0, 1] rfl (by decide) rfl) rfl rfl hl.1 rfl (lv_room (Nat.le_of_ble_eq_true rfl)) dX3_findBest_72 ⟨(Nat.le_of_ble_eq_true rfl), (Nat.le_of_ble_eq_true rfl)⟩) hP hD hS hA [9, 0, 1] [2, 3, 4, 5, 6, 7, 8, 10, 11] rfl rfl (by decide) (by decide) (fun u5 H locs _ hP hD hS => ?_)
  have hP : va_P D vwCl [(ta, .inl (cy 0, 40, .inl (fun _ => 0))), (xc24 cy xh xq), (xc25 cy xh xq), (xc34 cy xh xq), ((xq 25), .inr (5, [.ref (xq 26), .int 0, .int 0])), ((xq 27), .inr (5, [.ref (xq 28), .int 0, .int 0])), ((xq 29), .inr (5, [.ref (xq 30), .int 0, .int 0])), (li, .inl (cy 0, 44, .inl (upd (upd (upd (upd (fun _ => 0) 0 0) 11 0) 22 0) 33 0))), ((xq 31), .inr (5, [.ref (xq 32), .int 0, .int 0])), (le, .inl (cy 0, 14641, .inl (upd (fun _ => 0) 0 0))), (h, .inr (3, [.int (-1), .int 0, .ref ta, .int 200, .ref lf, .ref li, .ref le])), (lf, .inl (cy 0, 4, .inl (upd (upd (upd (upd (fun _ => 0) 0 0) 1 0) 2 0) 3 0)))] H := hP
  have hD : va_D A [(ta, .inl (cy 0, 40, .inl (fun _ => 0))), (xc24 cy xh xq), (xc25 cy xh xq), (xc34 cy xh xq), ((xq 25), .inr (5, [.ref (xq 26), .int 0, .int 0])), ((xq 27), .inr (5, [.ref (xq 28), .int 0, .int 0])), ((xq 29), .inr (5, [.ref (xq 30), .int 0, .int 0])), (li, .inl (cy 0, 44, .inl (upd (upd (upd (upd (fun _ => 0) 0 0) 11 0) 22 0) 33 0))), ((xq 31), .inr (5, [.ref (xq 32), .int 0, .int 0])), (le, .inl (cy 0, 14641, .inl (upd (fun _ => 0) 0 0))), (h, .inr (3, [.int (-1), .int 0, .ref ta, .int 200, .ref lf, .ref li, .ref le])), (lf, .inl (cy 0, 4, .inl (upd (upd (upd (upd (fun _ => 0) 0 0) 1 0) 2 0) 3 0)))] := hD
  refine lv_aload_n hx hb dX3_findBest_75 rfl (lv_at hl 1 rfl) ?_
  refine va_get (D := D) (ci := 3) (v := .ref le) (C := RX3) (T := TX3) (N := 7) hx hb hts iw_X3_findBest_X3 hown hKX.1 hP 10 rfl rfl 6 (by decide) (hts (.fieldLink RX3 31 "TrainFerry$EmptyingSearch" "least" "[I") (by decide +kernel)) (fun _ h9 => h9) rfl dX3_findBest_76 ?_
  refine lv_aload_n hx hb dX3_findBest_79 rfl (lv_at hl 1 rfl) ?_
  refine cl_i (wr := [(ta, .inl (cy 0, 40, .inl (fun _ => 0))), (xc24 cy xh xq), (xc25 cy xh xq), (xc34 cy xh xq), ((xq 25), .inr (5, [.ref (xq 26), .int 0, .int 0])), ((xq 27), .inr (5, [.ref (xq 28), .int 0, .int 0])), ((xq 29), .inr (5, [.ref (xq 30), .int 0, .int 0])), (li, .inl (cy 0, 44, .inl (upd (upd (upd (upd (fun _ => 0) 0 0) 11 0) 22 0) 33 0))), ((xq 31), .inr (5, [.ref (xq 32), .int 0, .int 0])), (le, .inl (cy 0, 14641, .inl (upd (fun _ => 0) 0 0)))]) (va_runV (As := []) (rest := [.ref le]) ⟨hx, hb, hml, hown, hts⟩ (c_ES_stateNow l D cy _ h ta lf li le _) (cwV 0 hts gX3_findBest_X3_stateNow rfl rfl rfl (by decide +kernel) ⟨(Nat.le_of_ble_eq_true rfl), (Nat.le_of_ble_eq_true rfl)⟩) (pre_VX hKX hP hD hSF hS hA (ci := 3) (q0 := 10) rfl rfl [10, 11] rfl (by decide) rfl) rfl rfl hl.1 rfl (lv_room (Nat.le_of_ble_eq_true rfl)) dX3_findBest_80 ⟨(Nat.le_of_ble_eq_true rfl), (Nat.le_of_ble_eq_true rfl)⟩) hP hD hS hA [10, 11] [0, 1, 2, 3, 4, 5, 6, 7, 8, 9] rfl rfl (by decide) (by decide) (fun u6 H locs _ hP hD hS => ?_)
  have hP : va_P D vwCl [(ta, .inl (cy 0, 40, .inl (fun _ => 0))), (xc24 cy xh xq), (xc25 cy xh xq), (xc34 cy xh xq), ((xq 25), .inr (5, [.ref (xq 26), .int 0, .int 0])), ((xq 27), .inr (5, [.ref (xq 28), .int 0, .int 0])), ((xq 29), .inr (5, [.ref (xq 30), .int 0, .int 0])), (li, .inl (cy 0, 44, .inl (upd (upd (upd (upd (fun _ => 0) 0 0) 11 0) 22 0) 33 0))), ((xq 31), .inr (5, [.ref (xq 32), .int 0, .int 0])), (le, .inl (cy 0, 14641, .inl (upd (fun _ => 0) 0 0))), (h, .inr (3, [.int (-1), .int 0, .ref ta, .int 200, .ref lf, .ref li, .ref le])), (lf, .inl (cy 0, 4, .inl (upd (upd (upd (upd (fun _ => 0) 0 0) 1 0) 2 0) 3 0)))] H := hP
  have hD : va_D A [(ta, .inl (cy 0, 40, .inl (fun _ => 0))), (xc24 cy xh xq), (xc25 cy xh xq), (xc34 cy xh xq), ((xq 25), .inr (5, [.ref (xq 26), .int 0, .int 0])), ((xq 27), .inr (5, [.ref (xq 28), .int 0, .int 0])), ((xq 29), .inr (5, [.ref (xq 30), .int 0, .int 0])), (li, .inl (cy 0, 44, .inl (upd (upd (upd (upd (fun _ => 0) 0 0) 11 0) 22 0) 33 0))), ((xq 31), .inr (5, [.ref (xq 32), .int 0, .int 0])), (le, .inl (cy 0, 14641, .inl (upd (fun _ => 0) 0 0))), (h, .inr (3, [.int (-1), .int 0, .ref ta, .int 200, .ref lf, .ref li, .ref le])), (lf, .inl (cy 0, 4, .inl (upd (upd (upd (upd (fun _ => 0) 0 0) 1 0) 2 0) 3 0)))] := hD
  refine va_iald hx hb hKX.1 hP 9 0 rfl rfl (vind (by decide)) dX3_findBest_83 ?_
  refine lv_cst 0 rfl ?_
  refine lv_istore_n (lv' := [(2, .int 0), (0, .ref h), (1, .ref (xq 23))]) hx hb dX3_findBest_84 rfl hl (by decide) rfl (fun ls hl => ?_)
  refine lv_aload_n hx hb dX3_findBest_85 rfl (lv_at hl 1 rfl) ?_
  refine lv_iload_n hx hb dX3_findBest_86 rfl (lv_at hl 0 rfl) ?_
  refine lv_ldc (v := 1000000) hx hb hown (hts (.constant RX3 64 (1000000)) (by decide +kernel)) dX3_findBest_87 ?_
  refine lv_icmp_lt (tgt := 96) hx hb dX3_findBest_89 (by decide) (fun _ => ?_) (fun c9 => absurd (by decide) c9)
  refine lv_iload_n hx hb dX3_findBest_96 rfl (lv_at hl 0 rfl) ?_
  refine va_put (D := D) (ci := 3) (v := .int 0) (ty := .int) (C := RX3) (T := TX3) (N := 7) hx hb hts iw_X3_findBest_X3 tyX3 tyX3_ok nmX3 hown hKX.1 hP hD hS 10 rfl rfl 0 (by decide) (hts (.fieldLink RX3 9 "TrainFerry$EmptyingSearch" "worst" "I") (by decide +kernel)) (fun _ h9 => h9) rfl (by decide +kernel) rfl rfl (Nat.le_of_ble_eq_true rfl) dX3_findBest_97 (fun H locs hP hD hS => ?_)
  have hP : va_P D vwCl [(ta, .inl (cy 0, 40, .inl (fun _ => 0))), (xc24 cy xh xq), (xc25 cy xh xq), (xc34 cy xh xq), ((xq 25), .inr (5, [.ref (xq 26), .int 0, .int 0])), ((xq 27), .inr (5, [.ref (xq 28), .int 0, .int 0])), ((xq 29), .inr (5, [.ref (xq 30), .int 0, .int 0])), (li, .inl (cy 0, 44, .inl (upd (upd (upd (upd (fun _ => 0) 0 0) 11 0) 22 0) 33 0))), ((xq 31), .inr (5, [.ref (xq 32), .int 0, .int 0])), (le, .inl (cy 0, 14641, .inl (upd (fun _ => 0) 0 0))), (h, .inr (3, [.int 0, .int 0, .ref ta, .int 200, .ref lf, .ref li, .ref le])), (lf, .inl (cy 0, 4, .inl (upd (upd (upd (upd (fun _ => 0) 0 0) 1 0) 2 0) 3 0)))] H := hP
  have hD : va_D A [(ta, .inl (cy 0, 40, .inl (fun _ => 0))), (xc24 cy xh xq), (xc25 cy xh xq), (xc34 cy xh xq), ((xq 25), .inr (5, [.ref (xq 26), .int 0, .int 0])), ((xq 27), .inr (5, [.ref (xq 28), .int 0, .int 0])), ((xq 29), .inr (5, [.ref (xq 30), .int 0, .int 0])), (li, .inl (cy 0, 44, .inl (upd (upd (upd (upd (fun _ => 0) 0 0) 11 0) 22 0) 33 0))), ((xq 31), .inr (5, [.ref (xq 32), .int 0, .int 0])), (le, .inl (cy 0, 14641, .inl (upd (fun _ => 0) 0 0))), (h, .inr (3, [.int 0, .int 0, .ref ta, .int 200, .ref lf, .ref li, .ref le])), (lf, .inl (cy 0, 4, .inl (upd (upd (upd (upd (fun _ => 0) 0 0) 1 0) 2 0) 3 0)))] := hD
  refine lv_aload_n hx hb dX3_findBest_100 rfl (lv_at hl 1 rfl) ?_
  refine lv_iload_n hx hb dX3_findBest_101 rfl (lv_at hl 0 rfl) ?_
  refine lv_ldc (v := 1000000) hx hb hown (hts (.constant RX3 64 (1000000)) (by decide +kernel)) dX3_findBest_102 ?_
  refine lv_icmp_lt (tgt := 111) hx hb dX3_findBest_104 (by decide) (fun _ => ?_) (fun c9 => absurd (by decide) c9)
  refine lv_aload_n hx hb dX3_findBest_111 rfl (lv_at hl 2 rfl) ?_
  refine va_get (D := D) (ci := 2) (v := .ref (xq 33)) (C := RX2) (T := TX2) (N := 2) hx hb hts iw_X3_findBest_X2 hown hKX.1 hP 1 rfl rfl 1 (by decide) (hts (.fieldLink RX3 34 "TrainFerry$Deck" "tally" "LTrainFerry$Tally;") (by decide +kernel)) (fun _ h9 => h9) rfl dX3_findBest_112 ?_
  refine va_get (D := D) (ci := 8) (v := .int 0) (C := RX8) (T := TX8) (N := 10) hx hb hts iw_X3_findBest_X8 hown hKX.1 hP 3 rfl rfl 4 (by decide) (hts (.fieldLink RX3 65 "TrainFerry$Tally" "allWagons" "I") (by decide +kernel)) (fun _ h9 => h9) rfl dX3_findBest_115 ?_
  refine va_put (D := D) (ci := 3) (v := .int 0) (ty := .int) (C := RX3) (T := TX3) (N := 7) hx hb hts iw_X3_findBest_X3 tyX3 tyX3_ok nmX3 hown hKX.1 hP hD hS 10 rfl rfl 1 (by decide) (hts (.fieldLink RX3 15 "TrainFerry$EmptyingSearch" "stepsFound" "I") (by decide +kernel)) (fun _ h9 => h9) rfl (by decide +kernel) rfl rfl (Nat.le_of_ble_eq_true rfl) dX3_findBest_118 (fun H locs hP hD hS => ?_)
  have hP : va_P D vwCl [(ta, .inl (cy 0, 40, .inl (fun _ => 0))), (xc24 cy xh xq), (xc25 cy xh xq), (xc34 cy xh xq), ((xq 25), .inr (5, [.ref (xq 26), .int 0, .int 0])), ((xq 27), .inr (5, [.ref (xq 28), .int 0, .int 0])), ((xq 29), .inr (5, [.ref (xq 30), .int 0, .int 0])), (li, .inl (cy 0, 44, .inl (upd (upd (upd (upd (fun _ => 0) 0 0) 11 0) 22 0) 33 0))), ((xq 31), .inr (5, [.ref (xq 32), .int 0, .int 0])), (le, .inl (cy 0, 14641, .inl (upd (fun _ => 0) 0 0))), (h, .inr (3, [.int 0, .int 0, .ref ta, .int 200, .ref lf, .ref li, .ref le])), (lf, .inl (cy 0, 4, .inl (upd (upd (upd (upd (fun _ => 0) 0 0) 1 0) 2 0) 3 0)))] H := hP
  have hD : va_D A [(ta, .inl (cy 0, 40, .inl (fun _ => 0))), (xc24 cy xh xq), (xc25 cy xh xq), (xc34 cy xh xq), ((xq 25), .inr (5, [.ref (xq 26), .int 0, .int 0])), ((xq 27), .inr (5, [.ref (xq 28), .int 0, .int 0])), ((xq 29), .inr (5, [.ref (xq 30), .int 0, .int 0])), (li, .inl (cy 0, 44, .inl (upd (upd (upd (upd (fun _ => 0) 0 0) 11 0) 22 0) 33 0))), ((xq 31), .inr (5, [.ref (xq 32), .int 0, .int 0])), (le, .inl (cy 0, 14641, .inl (upd (fun _ => 0) 0 0))), (h, .inr (3, [.int 0, .int 0, .ref ta, .int 200, .ref lf, .ref li, .ref le])), (lf, .inl (cy 0, 4, .inl (upd (upd (upd (upd (fun _ => 0) 0 0) 1 0) 2 0) 3 0)))] := hD
  refine lv_iconst (v := 0) hx hb dX3_findBest_121 (by decide) ?_
  refine lv_istore_n (lv' := [(3, .int 0), (2, .int 0), (0, .ref h), (1, .ref (xq 23))]) hx hb dX3_findBest_122 rfl hl (by decide) rfl (fun ls hl => ?_)
  refine lv_iload_n hx hb dX3_findBest_123 rfl (lv_at hl 0 rfl) ?_
  refine lv_aload_n hx hb dX3_findBest_124 rfl (lv_at hl 2 rfl) ?_
  refine va_get (D := D) (ci := 3) (v := .int 0) (C := RX3) (T := TX3) (N := 7) hx hb hts iw_X3_findBest_X3 hown hKX.1 hP 10 rfl rfl 1 (by decide) (hts (.fieldLink RX3 15 "TrainFerry$EmptyingSearch" "stepsFound" "I") (by decide +kernel)) (fun _ h9 => h9) rfl dX3_findBest_125 ?_
  refine lv_icmp_ge (tgt := 172) hx hb dX3_findBest_128 (by decide) (fun _ => ?_) (fun c9 => absurd (by decide) c9)
  exact en_v hx hb hr hlocks () trivial (hP.sub [10] rfl) (hD.sub [10] (by decide) rfl) hS (Nat.le_of_ble_eq_true rfl) (Nat.le_of_ble_eq_true rfl) dX3_findBest_172
theorem iw_X11_bestEmptying_X11 : ∀ w ∈ wsX110, w ∈ wsX11_bestEmptying := by decide +kernel
theorem iw_X11_bestEmptying_X3 : ∀ w ∈ wsX30, w ∈ wsX11_bestEmptying := by decide +kernel
set_option maxHeartbeats 4000000 in
set_option maxRecDepth 100000 in
theorem c_bestEmptying (l : Launch) (D : va_G) (cy : Nat → ClassId) (tS : Nat) (xh : Nat) (xq : Nat → Nat) (sz : Nat) : Met l yX11_bestEmptying wsX11_bestEmptying ({ frames := 4, cells := 5, slots := 14736, locals := 97 }) (wPreX D cy tS [.ref xh] sz [(xc0 cy xh xq), (xc24 cy xh xq), (xc25 cy xh xq), (xc26 cy xh xq), (xc28 cy xh xq), (xc30 cy xh xq), (xc32 cy xh xq), (xc34 cy xh xq)]) (wQq D (fun u : (Nat → Nat) => some (u 0)) (fun _ : (Nat → Nat) => True) (fun u : (Nat → Nat) => [(xh, .inr (11, [.ref (xq 0), .ref (xq 23), .ref (xq 38), .ref (xq 39), .ref (xq 42), .ref (xq 43), .null, .ref (u 0), .int 1, .int 0, .int 0, .int 0, .int 0, .int (-1), .int 0, .int 0, .int 5, .int 100])), ((u 0), .inr (3, [.int 0, .int 0, .ref (u 1), .int 200, .ref (u 2), .ref (u 3), .ref (u 4)]))]) (va_A [(xc0 cy xh xq), (xc24 cy xh xq), (xc25 cy xh xq), (xc26 cy xh xq), (xc28 cy xh xq), (xc30 cy xh xq), (xc32 cy xh xq), (xc34 cy xh xq)] sz)) 5 14736 (va_A [(xc0 cy xh xq), (xc24 cy xh xq), (xc25 cy xh xq), (xc26 cy xh xq), (xc28 cy xh xq), (xc30 cy xh xq), (xc32 cy xh xq), (xc34 cy xh xq)] sz) := by
  refine met_goX (y := yX11_bestEmptying) (ws := wsX11_bestEmptying) (av := [.ref xh]) (cc := cX11_bestEmptying) (maxL := 1) (ret := (some (.object "TrainFerry$EmptyingSearch"))) (Qc := fun A => wQq D (fun u : (Nat → Nat) => some (u 0)) (fun _ : (Nat → Nat) => True) (fun u : (Nat → Nat) => [(xh, .inr (11, [.ref (xq 0), .ref (xq 23), .ref (xq 38), .ref (xq 39), .ref (xq 42), .ref (xq 43), .null, .ref (u 0), .int 1, .int 0, .int 0, .int 0, .int 0, .int (-1), .int 0, .int 0, .int 5, .int 100])), ((u 0), .inr (3, [.int 0, .int 0, .ref (u 1), .int 200, .ref (u 2), .ref (u 3), .ref (u 4)]))]) A) (by decide) rfl (Nat.le_of_ble_eq_true rfl) ?_
  intro p e s m below meth c ls A hx hb hr hml hown hts hlocks hname hKX hSF hP hD hA hS hl
  have hown : s.vm.findClass RX11 = some m.cls := hown
  have hl : lv_has ls 1 [(0, .ref xh)] := hl
  refine lv_aload_n hx hb dX11_bestEmptying_0 rfl (lv_at hl 0 rfl) ?_
  refine va_get (D := D) (ci := 11) (v := .null) (C := RX11) (T := TX11) (N := 18) hx hb hts iw_X11_bestEmptying_X11 hown hKX.1 hP 0 rfl rfl 7 (by decide) (hts (.fieldLink RX11 55 "TrainFerry" "emptyings" "LTrainFerry$EmptyingSearch;") (by decide +kernel)) (fun _ h9 => h9) rfl dX11_bestEmptying_1 ?_
  refine lv_ifnonnullN hx hb dX11_bestEmptying_4 ?_
  refine lv_aload_n hx hb dX11_bestEmptying_7 rfl (lv_at hl 0 rfl) ?_
  refine va_new (ci := 3) (fs := [.int 0, .int 0, .null, .int 0, .null, .null, .null]) (C := RX3) (T := TX3) (N := 7) hx hb hts iw_X11_bestEmptying_X3 tyX3 tyX3_ok hown (hts (.classLink RX11 262 RX3) (by decide +kernel)) (hts (.instantiable RX3 7) (by decide +kernel)) (hts (.initialized RX3) (by decide +kernel)) hKX.1 hP hD hS hA rfl (fun j hj => by rcases (show j = 0 ∨ j = 1 ∨ j = 2 ∨ j = 3 ∨ j = 4 ∨ j = 5 ∨ j = 6 by omega) with rfl | rfl | rfl | rfl | rfl | rfl | rfl <;> rfl) (Nat.le_of_ble_eq_true rfl) (Nat.le_of_ble_eq_true rfl) dX11_bestEmptying_8 (fun q1 H hP hD hS => ?_)
  have hP : va_P D vwCl [(xc0 cy xh xq), (xc24 cy xh xq), (xc25 cy xh xq), (xc26 cy xh xq), (xc28 cy xh xq), (xc30 cy xh xq), (xc32 cy xh xq), (xc34 cy xh xq), (q1, .inr (3, [.int 0, .int 0, .null, .int 0, .null, .null, .null]))] H := hP
  have hD : va_D A [(xc0 cy xh xq), (xc24 cy xh xq), (xc25 cy xh xq), (xc26 cy xh xq), (xc28 cy xh xq), (xc30 cy xh xq), (xc32 cy xh xq), (xc34 cy xh xq), (q1, .inr (3, [.int 0, .int 0, .null, .int 0, .null, .null, .null]))] := hD
  refine lv_dup hx hb dX11_bestEmptying_11 rfl ?_
  refine cl_v (wr := [(xc0 cy xh xq), (xc24 cy xh xq), (xc25 cy xh xq), (xc26 cy xh xq), (xc28 cy xh xq), (xc30 cy xh xq), (xc32 cy xh xq), (xc34 cy xh xq)]) (va_runIN (As := []) (rest := [.ref q1, .ref xh]) ⟨hx, hb, hml, hown, hts⟩ (c_ES_init l D cy q1 _) ⟨va_cnB 0 hts gX11_bestEmptying_X3_init_n329 rfl rfl rfl (hKX.2.1 (.methodLinkNest RX11 329 yX3_init RX11) (by decide +kernel)) (hts (.initialized RX3) (by decide +kernel)) (by decide +kernel) ⟨(Nat.le_of_ble_eq_true rfl), (Nat.le_of_ble_eq_true rfl)⟩, rfl, hts (.instanceMethod yX3_init) (by decide +kernel)⟩ (pre_S hKX hP hD [8] rfl (by decide) rfl) rfl rfl hl.1 rfl (lv_room (Nat.le_of_ble_eq_true rfl)) dX11_bestEmptying_12 ⟨(Nat.le_of_ble_eq_true rfl), (Nat.le_of_ble_eq_true rfl)⟩) hP hD hS hA [8] [0, 1, 2, 3, 4, 5, 6, 7] rfl rfl (by decide) (by decide) (fun u2 H locs _ hP hD hS => ?_)
  have hP : va_P D vwCl [(xc0 cy xh xq), (xc24 cy xh xq), (xc25 cy xh xq), (xc26 cy xh xq), (xc28 cy xh xq), (xc30 cy xh xq), (xc32 cy xh xq), (xc34 cy xh xq), (q1, .inr (3, [.int (-1), .int 0, .ref (u2 0), .int 0, .ref (u2 1), .ref (u2 2), .ref (u2 3)])), ((u2 0), .inl (cy 0, 40, .inl (fun _ => 0))), ((u2 1), .inl (cy 0, 4, .inl (fun _ => 0))), ((u2 2), .inl (cy 0, 44, .inl (fun _ => 0))), ((u2 3), .inl (cy 0, 14641, .inl (fun _ => 0)))] H := hP
  have hD : va_D A [(xc0 cy xh xq), (xc24 cy xh xq), (xc25 cy xh xq), (xc26 cy xh xq), (xc28 cy xh xq), (xc30 cy xh xq), (xc32 cy xh xq), (xc34 cy xh xq), (q1, .inr (3, [.int (-1), .int 0, .ref (u2 0), .int 0, .ref (u2 1), .ref (u2 2), .ref (u2 3)])), ((u2 0), .inl (cy 0, 40, .inl (fun _ => 0))), ((u2 1), .inl (cy 0, 4, .inl (fun _ => 0))), ((u2 2), .inl (cy 0, 44, .inl (fun _ => 0))), ((u2 3), .inl (cy 0, 14641, .inl (fun _ => 0)))] := hD
  refine va_put (D := D) (ci := 11) (v := .ref q1) (ty := (tyX11 7)) (C := RX11) (T := TX11) (N := 18) hx hb hts iw_X11_bestEmptying_X11 tyX11 tyX11_ok nmX11 hown hKX.1 hP hD hS 0 rfl rfl 7 (by decide) (hts (.fieldLink RX11 55 "TrainFerry" "emptyings" "LTrainFerry$EmptyingSearch;") (by decide +kernel)) (fun _ h9 => h9) rfl (by decide +kernel) rfl rfl (Nat.le_of_ble_eq_true rfl) dX11_bestEmptying_15 (fun H locs hP hD hS => ?_)
  have hP : va_P D vwCl [(xh, .inr (11, [.ref (xq 0), .ref (xq 23), .ref (xq 38), .ref (xq 39), .ref (xq 42), .ref (xq 43), .null, .ref q1, .int 0, .int 0, .int 0, .int 0, .int 0, .int (-1), .int 0, .int 0, .int 5, .int 100])), (xc24 cy xh xq), (xc25 cy xh xq), (xc26 cy xh xq), (xc28 cy xh xq), (xc30 cy xh xq), (xc32 cy xh xq), (xc34 cy xh xq), (q1, .inr (3, [.int (-1), .int 0, .ref (u2 0), .int 0, .ref (u2 1), .ref (u2 2), .ref (u2 3)])), ((u2 0), .inl (cy 0, 40, .inl (fun _ => 0))), ((u2 1), .inl (cy 0, 4, .inl (fun _ => 0))), ((u2 2), .inl (cy 0, 44, .inl (fun _ => 0))), ((u2 3), .inl (cy 0, 14641, .inl (fun _ => 0)))] H := hP
  have hD : va_D A [(xh, .inr (11, [.ref (xq 0), .ref (xq 23), .ref (xq 38), .ref (xq 39), .ref (xq 42), .ref (xq 43), .null, .ref q1, .int 0, .int 0, .int 0, .int 0, .int 0, .int (-1), .int 0, .int 0, .int 5, .int 100])), (xc24 cy xh xq), (xc25 cy xh xq), (xc26 cy xh xq), (xc28 cy xh xq), (xc30 cy xh xq), (xc32 cy xh xq), (xc34 cy xh xq), (q1, .inr (3, [.int (-1), .int 0, .ref (u2 0), .int 0, .ref (u2 1), .ref (u2 2), .ref (u2 3)])), ((u2 0), .inl (cy 0, 40, .inl (fun _ => 0))), ((u2 1), .inl (cy 0, 4, .inl (fun _ => 0))), ((u2 2), .inl (cy 0, 44, .inl (fun _ => 0))), ((u2 3), .inl (cy 0, 14641, .inl (fun _ => 0)))] := hD
  refine lv_aload_n hx hb dX11_bestEmptying_18 rfl (lv_at hl 0 rfl) ?_
  refine lv_iconst (v := 0) hx hb dX11_bestEmptying_19 (by decide) ?_
  refine va_put (D := D) (ci := 11) (v := .int 0) (ty := .boolean) (C := RX11) (T := TX11) (N := 18) hx hb hts iw_X11_bestEmptying_X11 tyX11 tyX11_ok nmX11 hown hKX.1 hP hD hS 0 rfl rfl 8 (by decide) (hts (.fieldLink RX11 59 "TrainFerry" "emptyingKnown" "Z") (by decide +kernel)) (fun _ h9 => h9) rfl (by decide +kernel) rfl rfl (Nat.le_of_ble_eq_true rfl) dX11_bestEmptying_20 (fun H locs hP hD hS => ?_)
  have hP : va_P D vwCl [(xh, .inr (11, [.ref (xq 0), .ref (xq 23), .ref (xq 38), .ref (xq 39), .ref (xq 42), .ref (xq 43), .null, .ref q1, .int 0, .int 0, .int 0, .int 0, .int 0, .int (-1), .int 0, .int 0, .int 5, .int 100])), (xc24 cy xh xq), (xc25 cy xh xq), (xc26 cy xh xq), (xc28 cy xh xq), (xc30 cy xh xq), (xc32 cy xh xq), (xc34 cy xh xq), (q1, .inr (3, [.int (-1), .int 0, .ref (u2 0), .int 0, .ref (u2 1), .ref (u2 2), .ref (u2 3)])), ((u2 0), .inl (cy 0, 40, .inl (fun _ => 0))), ((u2 1), .inl (cy 0, 4, .inl (fun _ => 0))), ((u2 2), .inl (cy 0, 44, .inl (fun _ => 0))), ((u2 3), .inl (cy 0, 14641, .inl (fun _ => 0)))] H := hP
  have hD : va_D A [(xh, .inr (11, [.ref (xq 0), .ref (xq 23), .ref (xq 38), .ref (xq 39), .ref (xq 42), .ref (xq 43), .null, .ref q1, .int 0, .int 0, .int 0, .int 0, .int 0, .int (-1), .int 0, .int 0, .int 5, .int 100])), (xc24 cy xh xq), (xc25 cy xh xq), (xc26 cy xh xq), (xc28 cy xh xq), (xc30 cy xh xq), (xc32 cy xh xq), (xc34 cy xh xq), (q1, .inr (3, [.int (-1), .int 0, .ref (u2 0), .int 0, .ref (u2 1), .ref (u2 2), .ref (u2 3)])), ((u2 0), .inl (cy 0, 40, .inl (fun _ => 0))), ((u2 1), .inl (cy 0, 4, .inl (fun _ => 0))), ((u2 2), .inl (cy 0, 44, .inl (fun _ => 0))), ((u2 3), .inl (cy 0, 14641, .inl (fun _ => 0)))] := hD
  refine lv_aload_n hx hb dX11_bestEmptying_23 rfl (lv_at hl 0 rfl) ?_
  refine va_get (D := D) (ci := 11) (v := .int 0) (C := RX11) (T := TX11) (N := 18) hx hb hts iw_X11_bestEmptying_X11 hown hKX.1 hP 0 rfl rfl 8 (by decide) (hts (.fieldLink RX11 59 "TrainFerry" "emptyingKnown" "Z") (by decide +kernel)) (fun _ h9 => h9) rfl dX11_bestEmptying_24 ?_
  refine lv_if_ne (tgt := 46) hx hb dX11_bestEmptying_27 (by decide) (fun c9 => absurd (by decide) c9) (fun _ => ?_)
  refine lv_aload_n hx hb dX11_bestEmptying_30 rfl (lv_at hl 0 rfl) ?_
  refine va_get (D := D) (ci := 11) (v := .ref q1) (C := RX11) (T := TX11) (N := 18) hx hb hts iw_X11_bestEmptying_X11 hown hKX.1 hP 0 rfl rfl 7 (by decide) (hts (.fieldLink RX11 55 "TrainFerry" "emptyings" "LTrainFerry$EmptyingSearch;") (by decide +kernel)) (fun _ h9 => h9) rfl dX11_bestEmptying_31 ?_
  refine lv_aload_n hx hb dX11_bestEmptying_34 rfl (lv_at hl 0 rfl) ?_
  refine va_get (D := D) (ci := 11) (v := .ref (xq 23)) (C := RX11) (T := TX11) (N := 18) hx hb hts iw_X11_bestEmptying_X11 hown hKX.1 hP 0 rfl rfl 1 (by decide) (hts (.fieldLink RX11 19 "TrainFerry" "deck" "LTrainFerry$Deck;") (by decide +kernel)) (fun _ h9 => h9) rfl dX11_bestEmptying_35 ?_
  refine cl_v (wr := [(xh, .inr (11, [.ref (xq 0), .ref (xq 23), .ref (xq 38), .ref (xq 39), .ref (xq 42), .ref (xq 43), .null, .ref q1, .int 0, .int 0, .int 0, .int 0, .int 0, .int (-1), .int 0, .int 0, .int 5, .int 100]))]) (va_runV (As := [.ref (xq 23)]) (rest := []) ⟨hx, hb, hml, hown, hts⟩ (c_ES_findBest l D cy _ q1 (u2 0) (u2 1) (u2 2) (u2 3) xh xq _) (cwV 1 hts gX11_bestEmptying_X3_findBest rfl rfl rfl (by decide +kernel) ⟨(Nat.le_of_ble_eq_true rfl), (Nat.le_of_ble_eq_true rfl)⟩) (pre_VX hKX hP hD hSF hS hA (ci := 3) (q0 := 8) rfl rfl [8, 10, 11, 12, 9, 1, 2, 3, 4, 5, 6, 7] rfl (by decide) rfl) rfl rfl hl.1 rfl (lv_room (Nat.le_of_ble_eq_true rfl)) dX11_bestEmptying_38 ⟨(Nat.le_of_ble_eq_true rfl), (Nat.le_of_ble_eq_true rfl)⟩) hP hD hS hA [8, 10, 11, 12, 9, 1, 2, 3, 4, 5, 6, 7] [0] rfl rfl (by decide) (by decide) (fun u3 H locs _ hP hD hS => ?_)
  have hP : va_P D vwCl [(xh, .inr (11, [.ref (xq 0), .ref (xq 23), .ref (xq 38), .ref (xq 39), .ref (xq 42), .ref (xq 43), .null, .ref q1, .int 0, .int 0, .int 0, .int 0, .int 0, .int (-1), .int 0, .int 0, .int 5, .int 100])), (q1, .inr (3, [.int 0, .int 0, .ref (u2 0), .int 200, .ref (u2 1), .ref (u2 2), .ref (u2 3)]))] H := hP
  have hD : va_D A [(xh, .inr (11, [.ref (xq 0), .ref (xq 23), .ref (xq 38), .ref (xq 39), .ref (xq 42), .ref (xq 43), .null, .ref q1, .int 0, .int 0, .int 0, .int 0, .int 0, .int (-1), .int 0, .int 0, .int 5, .int 100])), (q1, .inr (3, [.int 0, .int 0, .ref (u2 0), .int 200, .ref (u2 1), .ref (u2 2), .ref (u2 3)]))] := hD
  refine lv_aload_n hx hb dX11_bestEmptying_41 rfl (lv_at hl 0 rfl) ?_
  refine lv_iconst (v := 1) hx hb dX11_bestEmptying_42 (by decide) ?_
  refine va_put (D := D) (ci := 11) (v := .int 1) (ty := .boolean) (C := RX11) (T := TX11) (N := 18) hx hb hts iw_X11_bestEmptying_X11 tyX11 tyX11_ok nmX11 hown hKX.1 hP hD hS 0 rfl rfl 8 (by decide) (hts (.fieldLink RX11 59 "TrainFerry" "emptyingKnown" "Z") (by decide +kernel)) (fun _ h9 => h9) rfl (by decide +kernel) rfl rfl (Nat.le_of_ble_eq_true rfl) dX11_bestEmptying_43 (fun H locs hP hD hS => ?_)
  have hP : va_P D vwCl [(xh, .inr (11, [.ref (xq 0), .ref (xq 23), .ref (xq 38), .ref (xq 39), .ref (xq 42), .ref (xq 43), .null, .ref q1, .int 1, .int 0, .int 0, .int 0, .int 0, .int (-1), .int 0, .int 0, .int 5, .int 100])), (q1, .inr (3, [.int 0, .int 0, .ref (u2 0), .int 200, .ref (u2 1), .ref (u2 2), .ref (u2 3)]))] H := hP
  have hD : va_D A [(xh, .inr (11, [.ref (xq 0), .ref (xq 23), .ref (xq 38), .ref (xq 39), .ref (xq 42), .ref (xq 43), .null, .ref q1, .int 1, .int 0, .int 0, .int 0, .int 0, .int (-1), .int 0, .int 0, .int 5, .int 100])), (q1, .inr (3, [.int 0, .int 0, .ref (u2 0), .int 200, .ref (u2 1), .ref (u2 2), .ref (u2 3)]))] := hD
  refine lv_aload_n hx hb dX11_bestEmptying_46 rfl (lv_at hl 0 rfl) ?_
  refine va_get (D := D) (ci := 11) (v := .ref q1) (C := RX11) (T := TX11) (N := 18) hx hb hts iw_X11_bestEmptying_X11 hown hKX.1 hP 0 rfl rfl 7 (by decide) (hts (.fieldLink RX11 55 "TrainFerry" "emptyings" "LTrainFerry$EmptyingSearch;") (by decide +kernel)) (fun _ h9 => h9) rfl dX11_bestEmptying_47 ?_
  exact en_q (v' := (some q1)) hx hb hr (Or.inl ⟨_, rfl⟩) hlocks rfl (lk [q1, (u2 0), (u2 1), (u2 2), (u2 3)]) rfl trivial (hP.sub [0, 1] rfl) (hD.sub [0, 1] (by decide) rfl) hS (Nat.le_of_ble_eq_true rfl) (Nat.le_of_ble_eq_true rfl) dX11_bestEmptying_50
theorem iw_X11_emptying_X3 : ∀ w ∈ wsX30, w ∈ wsX11_emptying := by decide +kernel
set_option maxHeartbeats 4000000 in
set_option maxRecDepth 100000 in
theorem c_emptying (l : Launch) (D : va_G) (cy : Nat → ClassId) (tS : Nat) (xh : Nat) (xq : Nat → Nat) (sz : Nat) : Met l yX11_emptying wsX11_emptying ({ frames := 5, cells := 5, slots := 14736, locals := 117 }) (wPreX D cy tS [.ref xh] sz [(xc0 cy xh xq), (xc24 cy xh xq), (xc25 cy xh xq), (xc26 cy xh xq), (xc28 cy xh xq), (xc30 cy xh xq), (xc32 cy xh xq), (xc34 cy xh xq)]) (wQi D 0 (fun _ : Unit => True) (fun _u : Unit => []) (va_A [(xc0 cy xh xq), (xc24 cy xh xq), (xc25 cy xh xq), (xc26 cy xh xq), (xc28 cy xh xq), (xc30 cy xh xq), (xc32 cy xh xq), (xc34 cy xh xq)] sz)) 5 14736 (va_A [(xc0 cy xh xq), (xc24 cy xh xq), (xc25 cy xh xq), (xc26 cy xh xq), (xc28 cy xh xq), (xc30 cy xh xq), (xc32 cy xh xq), (xc34 cy xh xq)] sz) := by
  refine met_goX (y := yX11_emptying) (ws := wsX11_emptying) (av := [.ref xh]) (cc := cX11_emptying) (maxL := 1) (ret := (some .int)) (Qc := fun A => wQi D 0 (fun _ : Unit => True) (fun _u : Unit => []) A) (by decide) rfl (Nat.le_of_ble_eq_true rfl) ?_
  intro p e s m below meth c ls A hx hb hr hml hown hts hlocks hname hKX hSF hP hD hA hS hl
  have hown : s.vm.findClass RX11 = some m.cls := hown
  have hl : lv_has ls 1 [(0, .ref xh)] := hl
  refine lv_aload_n hx hb dX11_emptying_0 rfl (lv_at hl 0 rfl) ?_
  refine cl_q (wr := []) (va_runV (As := []) (rest := []) ⟨hx, hb, hml, hown, hts⟩ (c_bestEmptying l D cy _ xh xq _) (cwV 0 hts gX11_emptying_X11_bestEmptying rfl rfl rfl (by decide +kernel) ⟨(Nat.le_of_ble_eq_true rfl), (Nat.le_of_ble_eq_true rfl)⟩) (pre_VX hKX hP hD hSF hS hA (ci := 11) (q0 := 0) rfl rfl [0, 1, 2, 3, 4, 5, 6, 7] rfl (by decide) rfl) rfl rfl hl.1 rfl (lv_room (Nat.le_of_ble_eq_true rfl)) dX11_emptying_1 ⟨(Nat.le_of_ble_eq_true rfl), (Nat.le_of_ble_eq_true rfl)⟩) hP hD hS hA [0, 1, 2, 3, 4, 5, 6, 7] [] rfl rfl (by decide) (by decide) (fun u1 H locs _ hP hD hS => ?_)
  have hP : va_P D vwCl [(xh, .inr (11, [.ref (xq 0), .ref (xq 23), .ref (xq 38), .ref (xq 39), .ref (xq 42), .ref (xq 43), .null, .ref (u1 0), .int 1, .int 0, .int 0, .int 0, .int 0, .int (-1), .int 0, .int 0, .int 5, .int 100])), ((u1 0), .inr (3, [.int 0, .int 0, .ref (u1 1), .int 200, .ref (u1 2), .ref (u1 3), .ref (u1 4)]))] H := hP
  have hD : va_D A [(xh, .inr (11, [.ref (xq 0), .ref (xq 23), .ref (xq 38), .ref (xq 39), .ref (xq 42), .ref (xq 43), .null, .ref (u1 0), .int 1, .int 0, .int 0, .int 0, .int 0, .int (-1), .int 0, .int 0, .int 5, .int 100])), ((u1 0), .inr (3, [.int 0, .int 0, .ref (u1 1), .int 200, .ref (u1 2), .ref (u1 3), .ref (u1 4)]))] := hD
  refine lv_csv (.ref (u1 0)) rfl ?_
  refine va_get (D := D) (ci := 3) (v := .int 0) (C := RX3) (T := TX3) (N := 7) hx hb hts iw_X11_emptying_X3 hown hKX.1 hP 1 rfl rfl 0 (by decide) (hts (.fieldLink RX11 261 "TrainFerry$EmptyingSearch" "worst" "I") (by decide +kernel)) (fun _ h9 => h9) rfl dX11_emptying_4 ?_
  exact en_i hx hb hr hlocks () rfl trivial (hP.sub [] rfl) (hD.sub [] (by decide) rfl) hS (Nat.le_of_ble_eq_true rfl) (Nat.le_of_ble_eq_true rfl) dX11_emptying_7
theorem iw_X11_emptied_X3 : ∀ w ∈ wsX30, w ∈ wsX11_emptied := by decide +kernel
set_option maxHeartbeats 4000000 in
set_option maxRecDepth 100000 in
theorem c_emptied (l : Launch) (D : va_G) (cy : Nat → ClassId) (tS : Nat) (xh : Nat) (xq : Nat → Nat) (xi : Int32) (sz : Nat) : Met l yX11_emptied wsX11_emptied ({ frames := 5, cells := 5, slots := 14736, locals := 117 }) (wPreX D cy tS [.ref xh, .int xi] sz [(xc0 cy xh xq), (xc24 cy xh xq), (xc25 cy xh xq), (xc26 cy xh xq), (xc28 cy xh xq), (xc30 cy xh xq), (xc32 cy xh xq), (xc34 cy xh xq)]) (wQi D (-1) (fun _ : Unit => True) (fun _u : Unit => []) (va_A [(xc0 cy xh xq), (xc24 cy xh xq), (xc25 cy xh xq), (xc26 cy xh xq), (xc28 cy xh xq), (xc30 cy xh xq), (xc32 cy xh xq), (xc34 cy xh xq)] sz)) 5 14736 (va_A [(xc0 cy xh xq), (xc24 cy xh xq), (xc25 cy xh xq), (xc26 cy xh xq), (xc28 cy xh xq), (xc30 cy xh xq), (xc32 cy xh xq), (xc34 cy xh xq)] sz) := by
  refine met_goX (y := yX11_emptied) (ws := wsX11_emptied) (av := [.ref xh, .int xi]) (cc := cX11_emptied) (maxL := 3) (ret := (some .int)) (Qc := fun A => wQi D (-1) (fun _ : Unit => True) (fun _u : Unit => []) A) (by decide) rfl (Nat.le_of_ble_eq_true rfl) ?_
  intro p e s m below meth c ls A hx hb hr hml hown hts hlocks hname hKX hSF hP hD hA hS hl
  have hown : s.vm.findClass RX11 = some m.cls := hown
  have hl : lv_has ls 3 [(0, .ref xh), (1, .int xi)] := hl
  have hi : wi xi 0 (-1) = 0 := wi_emp xi
  refine lv_aload_n hx hb dX11_emptied_0 rfl (lv_at hl 0 rfl) ?_
  refine cl_q (wr := []) (va_runV (As := []) (rest := []) ⟨hx, hb, hml, hown, hts⟩ (c_bestEmptying l D cy _ xh xq _) (cwV 0 hts gX11_emptied_X11_bestEmptying rfl rfl rfl (by decide +kernel) ⟨(Nat.le_of_ble_eq_true rfl), (Nat.le_of_ble_eq_true rfl)⟩) (pre_VX hKX hP hD hSF hS hA (ci := 11) (q0 := 0) rfl rfl [0, 1, 2, 3, 4, 5, 6, 7] rfl (by decide) rfl) rfl rfl hl.1 rfl (lv_room (Nat.le_of_ble_eq_true rfl)) dX11_emptied_1 ⟨(Nat.le_of_ble_eq_true rfl), (Nat.le_of_ble_eq_true rfl)⟩) hP hD hS hA [0, 1, 2, 3, 4, 5, 6, 7] [] rfl rfl (by decide) (by decide) (fun u1 H locs _ hP hD hS => ?_)
  have hP : va_P D vwCl [(xh, .inr (11, [.ref (xq 0), .ref (xq 23), .ref (xq 38), .ref (xq 39), .ref (xq 42), .ref (xq 43), .null, .ref (u1 0), .int 1, .int 0, .int 0, .int 0, .int 0, .int (-1), .int 0, .int 0, .int 5, .int 100])), ((u1 0), .inr (3, [.int 0, .int 0, .ref (u1 1), .int 200, .ref (u1 2), .ref (u1 3), .ref (u1 4)]))] H := hP
  have hD : va_D A [(xh, .inr (11, [.ref (xq 0), .ref (xq 23), .ref (xq 38), .ref (xq 39), .ref (xq 42), .ref (xq 43), .null, .ref (u1 0), .int 1, .int 0, .int 0, .int 0, .int 0, .int (-1), .int 0, .int 0, .int 5, .int 100])), ((u1 0), .inr (3, [.int 0, .int 0, .ref (u1 1), .int 200, .ref (u1 2), .ref (u1 3), .ref (u1 4)]))] := hD
  refine lv_csv (.ref (u1 0)) rfl ?_
  refine lv_astore_n (lv' := [(2, .ref (u1 0)), (0, .ref xh), (1, .int xi)]) hx hb dX11_emptied_4 rfl hl (by decide) rfl (fun ls hl => ?_)
  refine lv_iload_n hx hb dX11_emptied_5 rfl (lv_at hl 2 rfl) ?_
  refine lv_iconst (v := 0) hx hb dX11_emptied_6 (by decide) ?_
  refine lv_aload_n hx hb dX11_emptied_7 rfl (lv_at hl 0 rfl) ?_
  refine va_get (D := D) (ci := 3) (v := .int 0) (C := RX3) (T := TX3) (N := 7) hx hb hts iw_X11_emptied_X3 hown hKX.1 hP 1 rfl rfl 1 (by decide) (hts (.fieldLink RX11 266 "TrainFerry$EmptyingSearch" "stepsFound" "I") (by decide +kernel)) (fun _ h9 => h9) rfl dX11_emptied_8 ?_
  refine lv_iconst (v := 1) hx hb dX11_emptied_11 (by decide) ?_
  refine lv_isub hx hb dX11_emptied_12 ?_
  refine lv_cst (-1) (by decide) ?_
  refine cl_i (wr := [(xh, .inr (11, [.ref (xq 0), .ref (xq 23), .ref (xq 38), .ref (xq 39), .ref (xq 42), .ref (xq 43), .null, .ref (u1 0), .int 1, .int 0, .int 0, .int 0, .int 0, .int (-1), .int 0, .int 0, .int 5, .int 100])), ((u1 0), .inr (3, [.int 0, .int 0, .ref (u1 1), .int 200, .ref (u1 2), .ref (u1 3), .ref (u1 4)]))]) (va_runS (As := [.int xi, .int 0, .int (-1)]) (rest := []) ⟨hx, hb, hml, hown, hts⟩ (c_isWithin l D cy xi 0 (-1) _) (va_cwS 3 hts gX11_emptied_X11_isWithin rfl rfl rfl (by decide +kernel) ⟨(Nat.le_of_ble_eq_true rfl), (Nat.le_of_ble_eq_true rfl)⟩) (pre_S hKX hP hD [] rfl (by decide) rfl) rfl rfl hl.1 rfl (lv_room (Nat.le_of_ble_eq_true rfl)) dX11_emptied_13 ⟨(Nat.le_of_ble_eq_true rfl), (Nat.le_of_ble_eq_true rfl)⟩) hP hD hS hA [] [0, 1] rfl rfl (by decide) (by decide) (fun u2 H locs _ hP hD hS => ?_)
  have hP : va_P D vwCl [(xh, .inr (11, [.ref (xq 0), .ref (xq 23), .ref (xq 38), .ref (xq 39), .ref (xq 42), .ref (xq 43), .null, .ref (u1 0), .int 1, .int 0, .int 0, .int 0, .int 0, .int (-1), .int 0, .int 0, .int 5, .int 100])), ((u1 0), .inr (3, [.int 0, .int 0, .ref (u1 1), .int 200, .ref (u1 2), .ref (u1 3), .ref (u1 4)]))] H := hP
  have hD : va_D A [(xh, .inr (11, [.ref (xq 0), .ref (xq 23), .ref (xq 38), .ref (xq 39), .ref (xq 42), .ref (xq 43), .null, .ref (u1 0), .int 1, .int 0, .int 0, .int 0, .int 0, .int (-1), .int 0, .int 0, .int 5, .int 100])), ((u1 0), .inr (3, [.int 0, .int 0, .ref (u1 1), .int 200, .ref (u1 2), .ref (u1 3), .ref (u1 4)]))] := hD
  refine lv_if_eq (tgt := 28) hx hb dX11_emptied_16 (by decide) (fun _ => ?_) (fun c9 => absurd hi c9)
  refine lv_iconst (v := (-1)) hx hb dX11_emptied_28 (by decide) ?_
  exact en_i hx hb hr hlocks () rfl trivial (hP.sub [] rfl) (hD.sub [] (by decide) rfl) hS (Nat.le_of_ble_eq_true rfl) (Nat.le_of_ble_eq_true rfl) dX11_emptied_29
