/-! the cells of a new TrainFerry at xh -/
abbrev xc0 (cy : Nat → ClassId) (xh : Nat) (xq : Nat → Nat) : Nat × va_E := (xh, .inr (11, [.ref (xq 0), .ref (xq 23), .ref (xq 38), .ref (xq 39), .ref (xq 42), .ref (xq 43), .null, .null, .int 0, .int 0, .int 0, .int 0, .int 0, .int (-1), .int 0, .int 0, .int 5, .int 100]))
abbrev xc1 (cy : Nat → ClassId) (xh : Nat) (xq : Nat → Nat) : Nat × va_E := ((xq 0), .inl (cy 5, 2, .inr (.inr (.inr (.inr (va_up (va_up (fun _ => none) 0 (some (xq 1))) 1 (some (xq 12))))))))
abbrev xc2 (cy : Nat → ClassId) (xh : Nat) (xq : Nat → Nat) : Nat × va_E := ((xq 1), .inr (7, [.ref (xq 2), .ref (xq 9), .int 0]))
abbrev xc3 (cy : Nat → ClassId) (xh : Nat) (xq : Nat → Nat) : Nat × va_E := ((xq 2), .inl (cy 4, 3, .inr (.inr (.inr (.inr (va_up (va_up (va_up (fun _ => none) 0 (some (xq 3))) 1 (some (xq 5))) 2 (some (xq 7))))))))
abbrev xc4 (cy : Nat → ClassId) (xh : Nat) (xq : Nat → Nat) : Nat × va_E := ((xq 3), .inr (5, [.ref (xq 4), .int 0, .int 0]))
abbrev xc5 (cy : Nat → ClassId) (xh : Nat) (xq : Nat → Nat) : Nat × va_E := ((xq 4), .inl (cy 6, 33, .inr (.inr (.inr (.inr (fun _ => none))))))
abbrev xc6 (cy : Nat → ClassId) (xh : Nat) (xq : Nat → Nat) : Nat × va_E := ((xq 5), .inr (5, [.ref (xq 6), .int 0, .int 0]))
abbrev xc7 (cy : Nat → ClassId) (xh : Nat) (xq : Nat → Nat) : Nat × va_E := ((xq 6), .inl (cy 6, 33, .inr (.inr (.inr (.inr (fun _ => none))))))
abbrev xc8 (cy : Nat → ClassId) (xh : Nat) (xq : Nat → Nat) : Nat × va_E := ((xq 7), .inr (5, [.ref (xq 8), .int 0, .int 0]))
abbrev xc9 (cy : Nat → ClassId) (xh : Nat) (xq : Nat → Nat) : Nat × va_E := ((xq 8), .inl (cy 6, 33, .inr (.inr (.inr (.inr (fun _ => none))))))
abbrev xc10 (cy : Nat → ClassId) (xh : Nat) (xq : Nat → Nat) : Nat × va_E := ((xq 9), .inr (6, [.ref (xq 10), .ref (xq 11), .int 0, .int (-1)]))
abbrev xc11 (cy : Nat → ClassId) (xh : Nat) (xq : Nat → Nat) : Nat × va_E := ((xq 10), .inl (cy 0, 200, .inl (fun _ => 0)))
abbrev xc12 (cy : Nat → ClassId) (xh : Nat) (xq : Nat → Nat) : Nat × va_E := ((xq 11), .inl (cy 0, 200, .inl (fun _ => 0)))
abbrev xc13 (cy : Nat → ClassId) (xh : Nat) (xq : Nat → Nat) : Nat × va_E := ((xq 12), .inr (7, [.ref (xq 13), .ref (xq 20), .int 0]))
abbrev xc14 (cy : Nat → ClassId) (xh : Nat) (xq : Nat → Nat) : Nat × va_E := ((xq 13), .inl (cy 4, 3, .inr (.inr (.inr (.inr (va_up (va_up (va_up (fun _ => none) 0 (some (xq 14))) 1 (some (xq 16))) 2 (some (xq 18))))))))
abbrev xc15 (cy : Nat → ClassId) (xh : Nat) (xq : Nat → Nat) : Nat × va_E := ((xq 14), .inr (5, [.ref (xq 15), .int 0, .int 0]))
abbrev xc16 (cy : Nat → ClassId) (xh : Nat) (xq : Nat → Nat) : Nat × va_E := ((xq 15), .inl (cy 6, 33, .inr (.inr (.inr (.inr (fun _ => none))))))
abbrev xc17 (cy : Nat → ClassId) (xh : Nat) (xq : Nat → Nat) : Nat × va_E := ((xq 16), .inr (5, [.ref (xq 17), .int 0, .int 0]))
abbrev xc18 (cy : Nat → ClassId) (xh : Nat) (xq : Nat → Nat) : Nat × va_E := ((xq 17), .inl (cy 6, 33, .inr (.inr (.inr (.inr (fun _ => none))))))
abbrev xc19 (cy : Nat → ClassId) (xh : Nat) (xq : Nat → Nat) : Nat × va_E := ((xq 18), .inr (5, [.ref (xq 19), .int 0, .int 0]))
abbrev xc20 (cy : Nat → ClassId) (xh : Nat) (xq : Nat → Nat) : Nat × va_E := ((xq 19), .inl (cy 6, 33, .inr (.inr (.inr (.inr (fun _ => none))))))
abbrev xc21 (cy : Nat → ClassId) (xh : Nat) (xq : Nat → Nat) : Nat × va_E := ((xq 20), .inr (6, [.ref (xq 21), .ref (xq 22), .int 0, .int (-1)]))
abbrev xc22 (cy : Nat → ClassId) (xh : Nat) (xq : Nat → Nat) : Nat × va_E := ((xq 21), .inl (cy 0, 200, .inl (fun _ => 0)))
abbrev xc23 (cy : Nat → ClassId) (xh : Nat) (xq : Nat → Nat) : Nat × va_E := ((xq 22), .inl (cy 0, 200, .inl (fun _ => 0)))
abbrev xc24 (cy : Nat → ClassId) (xh : Nat) (xq : Nat → Nat) : Nat × va_E := ((xq 23), .inr (2, [.ref (xq 24), .ref (xq 33)]))
abbrev xc25 (cy : Nat → ClassId) (xh : Nat) (xq : Nat → Nat) : Nat × va_E := ((xq 24), .inl (cy 4, 4, .inr (.inr (.inr (.inr (va_up (va_up (va_up (va_up (fun _ => none) 0 (some (xq 25))) 1 (some (xq 27))) 2 (some (xq 29))) 3 (some (xq 31))))))))
abbrev xc26 (cy : Nat → ClassId) (xh : Nat) (xq : Nat → Nat) : Nat × va_E := ((xq 25), .inr (5, [.ref (xq 26), .int 0, .int 0]))
abbrev xc27 (cy : Nat → ClassId) (xh : Nat) (xq : Nat → Nat) : Nat × va_E := ((xq 26), .inl (cy 6, 10, .inr (.inr (.inr (.inr (fun _ => none))))))
abbrev xc28 (cy : Nat → ClassId) (xh : Nat) (xq : Nat → Nat) : Nat × va_E := ((xq 27), .inr (5, [.ref (xq 28), .int 0, .int 0]))
abbrev xc29 (cy : Nat → ClassId) (xh : Nat) (xq : Nat → Nat) : Nat × va_E := ((xq 28), .inl (cy 6, 10, .inr (.inr (.inr (.inr (fun _ => none))))))
abbrev xc30 (cy : Nat → ClassId) (xh : Nat) (xq : Nat → Nat) : Nat × va_E := ((xq 29), .inr (5, [.ref (xq 30), .int 0, .int 0]))
abbrev xc31 (cy : Nat → ClassId) (xh : Nat) (xq : Nat → Nat) : Nat × va_E := ((xq 30), .inl (cy 6, 10, .inr (.inr (.inr (.inr (fun _ => none))))))
abbrev xc32 (cy : Nat → ClassId) (xh : Nat) (xq : Nat → Nat) : Nat × va_E := ((xq 31), .inr (5, [.ref (xq 32), .int 0, .int 0]))
abbrev xc33 (cy : Nat → ClassId) (xh : Nat) (xq : Nat → Nat) : Nat × va_E := ((xq 32), .inl (cy 6, 10, .inr (.inr (.inr (.inr (fun _ => none))))))
abbrev xc34 (cy : Nat → ClassId) (xh : Nat) (xq : Nat → Nat) : Nat × va_E := ((xq 33), .inr (8, [.ref (xq 34), .ref (xq 35), .ref (xq 36), .ref (xq 37), .int 0, .int 0, .int 0, .int 0, .int 100, .int 200]))
abbrev xc35 (cy : Nat → ClassId) (xh : Nat) (xq : Nat → Nat) : Nat × va_E := ((xq 34), .inl (cy 0, 4, .inl (fun _ => 0)))
abbrev xc36 (cy : Nat → ClassId) (xh : Nat) (xq : Nat → Nat) : Nat × va_E := ((xq 35), .inl (cy 0, 4, .inl (fun _ => 0)))
abbrev xc37 (cy : Nat → ClassId) (xh : Nat) (xq : Nat → Nat) : Nat × va_E := ((xq 36), .inl (cy 0, 4, .inl (fun _ => 0)))
abbrev xc38 (cy : Nat → ClassId) (xh : Nat) (xq : Nat → Nat) : Nat × va_E := ((xq 37), .inl (cy 0, 4, .inl (fun _ => 0)))
abbrev xc39 (cy : Nat → ClassId) (xh : Nat) (xq : Nat → Nat) : Nat × va_E := ((xq 38), .inl (cy 6, 100, .inr (.inr (.inr (.inr (fun _ => none))))))
abbrev xc40 (cy : Nat → ClassId) (xh : Nat) (xq : Nat → Nat) : Nat × va_E := ((xq 39), .inr (1, [.ref (xq 40), .int 0, .int (-1), .int 0, .int 0, .int 0]))
abbrev xc41 (cy : Nat → ClassId) (xh : Nat) (xq : Nat → Nat) : Nat × va_E := ((xq 40), .inr (9, [.ref (xq 41), .int 0]))
abbrev xc42 (cy : Nat → ClassId) (xh : Nat) (xq : Nat → Nat) : Nat × va_E := ((xq 41), .inl (cy 0, 300, .inl (fun _ => 0)))
abbrev xc43 (cy : Nat → ClassId) (xh : Nat) (xq : Nat → Nat) : Nat × va_E := ((xq 42), .inl (cy 7, 20, .inr (.inr (.inr (.inr (fun _ => none))))))
abbrev xc44 (cy : Nat → ClassId) (xh : Nat) (xq : Nat → Nat) : Nat × va_E := ((xq 43), .inr (6, [.ref (xq 44), .ref (xq 45), .int 0, .int (-1)]))
abbrev xc45 (cy : Nat → ClassId) (xh : Nat) (xq : Nat → Nat) : Nat × va_E := ((xq 44), .inl (cy 0, 20, .inl (fun _ => 0)))
abbrev xc46 (cy : Nat → ClassId) (xh : Nat) (xq : Nat → Nat) : Nat × va_E := ((xq 45), .inl (cy 0, 20, .inl (fun _ => 0)))
theorem iw_X11_canBeTold_X11 : ∀ w ∈ wsX110, w ∈ wsX11_canBeTold := by decide +kernel
set_option maxHeartbeats 4000000 in
set_option maxRecDepth 100000 in
theorem c_canBeTold (l : Launch) (D : va_G) (cy : Nat → ClassId) (xh : Nat) (xq : Nat → Nat) (t : Int32) (sz : Nat) : Met l yX11_canBeTold wsX11_canBeTold ({ frames := 1, cells := 0, slots := 0, locals := 22 }) (wPre D cy [.ref xh, .int t] sz [(xh, .inr (11, [.ref (xq 0), .ref (xq 23), .ref (xq 38), .ref (xq 39), .ref (xq 42), .ref (xq 43), .null, .null, .int 0, .int 0, .int 0, .int 0, .int 0, .int (-1), .int 0, .int 0, .int 5, .int 100]))]) (wQi D (wi t 0 5000) (fun _ : Unit => True) (fun _u : Unit => [(xh, .inr (11, [.ref (xq 0), .ref (xq 23), .ref (xq 38), .ref (xq 39), .ref (xq 42), .ref (xq 43), .null, .null, .int 0, .int 0, .int 0, .int 0, .int 0, .int (-1), .int 0, .int 0, .int 5, .int 100]))]) (va_A [(xh, .inr (11, [.ref (xq 0), .ref (xq 23), .ref (xq 38), .ref (xq 39), .ref (xq 42), .ref (xq 43), .null, .null, .int 0, .int 0, .int 0, .int 0, .int 0, .int (-1), .int 0, .int 0, .int 5, .int 100]))] sz)) 0 0 (va_A [(xh, .inr (11, [.ref (xq 0), .ref (xq 23), .ref (xq 38), .ref (xq 39), .ref (xq 42), .ref (xq 43), .null, .null, .int 0, .int 0, .int 0, .int 0, .int 0, .int (-1), .int 0, .int 0, .int 5, .int 100]))] sz) := by
  refine met_go (y := yX11_canBeTold) (ws := wsX11_canBeTold) (av := [.ref xh, .int t]) (cc := cX11_canBeTold) (maxL := 2) (ret := (some .boolean)) (Qc := fun A => wQi D (wi t 0 5000) (fun _ : Unit => True) (fun _u : Unit => [(xh, .inr (11, [.ref (xq 0), .ref (xq 23), .ref (xq 38), .ref (xq 39), .ref (xq 42), .ref (xq 43), .null, .null, .int 0, .int 0, .int 0, .int 0, .int 0, .int (-1), .int 0, .int 0, .int 5, .int 100]))]) A) (by decide) rfl (Nat.le_of_ble_eq_true rfl) ?_
  intro p e s m below meth c ls A hx hb hr hml hown hts hlocks hname hKX hP hD hA hS hl
  have hown : s.vm.findClass RX11 = some m.cls := hown
  have hl : lv_has ls 2 [(0, .ref xh), (1, .int t)] := hl
  refine lv_iload_n hx hb dX11_canBeTold_0 rfl (lv_at hl 1 rfl) ?_
  refine lv_aload_n hx hb dX11_canBeTold_1 rfl (lv_at hl 0 rfl) ?_
  refine va_get (D := D) (ci := 11) (v := .int 0) (C := RX11) (T := TX11) (N := 18) hx hb hts iw_X11_canBeTold_X11 hown hKX.1 hP 0 rfl rfl 10 (by decide) (hts (.fieldLink RX11 67 "TrainFerry" "now" "I") (by decide +kernel)) (fun _ h9 => h9) rfl dX11_canBeTold_2 ?_
  refine lv_sipush (v := 5000) hx hb dX11_canBeTold_5 (by decide) ?_
  refine cl_i (wr := [(xh, .inr (11, [.ref (xq 0), .ref (xq 23), .ref (xq 38), .ref (xq 39), .ref (xq 42), .ref (xq 43), .null, .null, .int 0, .int 0, .int 0, .int 0, .int 0, .int (-1), .int 0, .int 0, .int 5, .int 100]))]) (va_runS (As := [.int t, .int 0, .int 5000]) (rest := []) ⟨hx, hb, hml, hown, hts⟩ (c_isWithin l D cy t 0 5000 _) (va_cwS 3 hts gX11_canBeTold_X11_isWithin rfl rfl rfl (by decide +kernel) ⟨(Nat.le_of_ble_eq_true rfl), (Nat.le_of_ble_eq_true rfl)⟩) (pre_S hKX hP hD [] rfl (by decide) rfl) rfl rfl hl.1 rfl (lv_room (Nat.le_of_ble_eq_true rfl)) dX11_canBeTold_8 ⟨(Nat.le_of_ble_eq_true rfl), (Nat.le_of_ble_eq_true rfl)⟩) hP hD hS hA [] [0] rfl rfl (by decide) (by decide) (fun u1 H locs _ hP hD hS => ?_)
  have hP : va_P D vwCl [(xh, .inr (11, [.ref (xq 0), .ref (xq 23), .ref (xq 38), .ref (xq 39), .ref (xq 42), .ref (xq 43), .null, .null, .int 0, .int 0, .int 0, .int 0, .int 0, .int (-1), .int 0, .int 0, .int 5, .int 100]))] H := hP
  have hD : va_D A [(xh, .inr (11, [.ref (xq 0), .ref (xq 23), .ref (xq 38), .ref (xq 39), .ref (xq 42), .ref (xq 43), .null, .null, .int 0, .int 0, .int 0, .int 0, .int 0, .int (-1), .int 0, .int 0, .int 5, .int 100]))] := hD
  exact en_z hx hb hr hlocks (wi_nar _ _ _) () rfl trivial (hP.sub [0] rfl) (hD.sub [0] (by decide) rfl) hS (Nat.le_of_ble_eq_true rfl) (Nat.le_of_ble_eq_true rfl) dX11_canBeTold_11
theorem iw_X5_wagonAt_X5 : ∀ w ∈ wsX50, w ∈ wsX5_wagonAt := by decide +kernel
set_option maxHeartbeats 4000000 in
set_option maxRecDepth 100000 in
theorem c_wagonAt (l : Launch) (D : va_G) (cy : Nat → ClassId) (h : Nat) (w : Nat) (i : Int32) (sz : Nat) : Met l yX5_wagonAt wsX5_wagonAt ({ frames := 1, cells := 0, slots := 0, locals := 22 }) (wPre D cy [.ref h, .int i] sz [(h, .inr (5, [.ref w, .int 0, .int 0]))]) (wQq D (fun _u : Unit => none) (fun _ : Unit => True) (fun _u : Unit => [(h, .inr (5, [.ref w, .int 0, .int 0]))]) (va_A [(h, .inr (5, [.ref w, .int 0, .int 0]))] sz)) 0 0 (va_A [(h, .inr (5, [.ref w, .int 0, .int 0]))] sz) := by
  refine met_go (y := yX5_wagonAt) (ws := wsX5_wagonAt) (av := [.ref h, .int i]) (cc := cX5_wagonAt) (maxL := 2) (ret := (some (.object "TrainFerry$Wagon"))) (Qc := fun A => wQq D (fun _u : Unit => none) (fun _ : Unit => True) (fun _u : Unit => [(h, .inr (5, [.ref w, .int 0, .int 0]))]) A) (by decide) rfl (Nat.le_of_ble_eq_true rfl) ?_
  intro p e s m below meth c ls A hx hb hr hml hown hts hlocks hname hKX hP hD hA hS hl
  have hown : s.vm.findClass RX5 = some m.cls := hown
  have hl : lv_has ls 2 [(0, .ref h), (1, .int i)] := hl
  have hi : wi i 0 (-1) = 0 := wi_emp i
  refine lv_iload_n hx hb dX5_wagonAt_0 rfl (lv_at hl 1 rfl) ?_
  refine lv_iconst (v := 0) hx hb dX5_wagonAt_1 (by decide) ?_
  refine lv_aload_n hx hb dX5_wagonAt_2 rfl (lv_at hl 0 rfl) ?_
  refine va_get (D := D) (ci := 5) (v := .int 0) (C := RX5) (T := TX5) (N := 3) hx hb hts iw_X5_wagonAt_X5 hown hKX.1 hP 0 rfl rfl 1 (by decide) (hts (.fieldLink RX5 7 "TrainFerry$Row" "size" "I") (by decide +kernel)) (fun _ h9 => h9) rfl dX5_wagonAt_3 ?_
  refine lv_iconst (v := 1) hx hb dX5_wagonAt_6 (by decide) ?_
  refine lv_isub hx hb dX5_wagonAt_7 ?_
  refine lv_cst (-1) (by decide) ?_
  refine cl_i (wr := [(h, .inr (5, [.ref w, .int 0, .int 0]))]) (va_runSN (As := [.int i, .int 0, .int (-1)]) (rest := []) ⟨hx, hb, hml, hown, hts⟩ (c_isWithin l D cy i 0 (-1) _) ⟨va_cnB 3 hts gX5_wagonAt_X11_isWithin_n28 rfl rfl rfl (hKX.2.1 (.methodLinkNest RX5 28 yX11_isWithin RX11) (by decide +kernel)) (hts (.initialized RX11) (by decide +kernel)) (by decide +kernel) ⟨(Nat.le_of_ble_eq_true rfl), (Nat.le_of_ble_eq_true rfl)⟩, hts (.static yX11_isWithin) (by decide +kernel), trivial⟩ (pre_S hKX hP hD [] rfl (by decide) rfl) rfl rfl hl.1 rfl (lv_room (Nat.le_of_ble_eq_true rfl)) dX5_wagonAt_8 ⟨(Nat.le_of_ble_eq_true rfl), (Nat.le_of_ble_eq_true rfl)⟩) hP hD hS hA [] [0] rfl rfl (by decide) (by decide) (fun u1 H locs _ hP hD hS => ?_)
  have hP : va_P D vwCl [(h, .inr (5, [.ref w, .int 0, .int 0]))] H := hP
  have hD : va_D A [(h, .inr (5, [.ref w, .int 0, .int 0]))] := hD
  refine lv_if_eq (tgt := 23) hx hb dX5_wagonAt_11 (by decide) (fun _ => ?_) (fun c9 => absurd hi c9)
  refine lv_null hx hb dX5_wagonAt_23 ?_
  exact en_q (v' := none) hx hb hr (Or.inl ⟨_, rfl⟩) hlocks rfl () rfl trivial (hP.sub [0] rfl) (hD.sub [0] (by decide) rfl) hS (Nat.le_of_ble_eq_true rfl) (Nat.le_of_ble_eq_true rfl) dX5_wagonAt_24
theorem iw_X5_hasRoom_X5 : ∀ w ∈ wsX50, w ∈ wsX5_hasRoom := by decide +kernel
set_option maxHeartbeats 4000000 in
set_option maxRecDepth 100000 in
theorem c_hasRoom (l : Launch) (D : va_G) (cy : Nat → ClassId) (h : Nat) (w : Nat) (a : Int32) (ha : ¬ (wi a 6 26) = 0) (sz : Nat) : Met l yX5_hasRoom wsX5_hasRoom ({ frames := 0, cells := 0, slots := 0, locals := 0 }) (wPre D cy [.ref h, .int a, .int 200] sz [(h, .inr (5, [.ref w, .int 0, .int 0])), (w, .inl (cy 6, 33, .inr (.inr (.inr (.inr (fun _ => none))))))]) (wQi D 1 (fun _ : Unit => True) (fun _u : Unit => [(h, .inr (5, [.ref w, .int 0, .int 0])), (w, .inl (cy 6, 33, .inr (.inr (.inr (.inr (fun _ => none))))))]) (va_A [(h, .inr (5, [.ref w, .int 0, .int 0])), (w, .inl (cy 6, 33, .inr (.inr (.inr (.inr (fun _ => none))))))] sz)) 0 0 (va_A [(h, .inr (5, [.ref w, .int 0, .int 0])), (w, .inl (cy 6, 33, .inr (.inr (.inr (.inr (fun _ => none))))))] sz) := by
  refine met_go (y := yX5_hasRoom) (ws := wsX5_hasRoom) (av := [.ref h, .int a, .int 200]) (cc := cX5_hasRoom) (maxL := 3) (ret := (some .boolean)) (Qc := fun A => wQi D 1 (fun _ : Unit => True) (fun _u : Unit => [(h, .inr (5, [.ref w, .int 0, .int 0])), (w, .inl (cy 6, 33, .inr (.inr (.inr (.inr (fun _ => none))))))]) A) (by decide) rfl (Nat.le_of_ble_eq_true rfl) ?_
  intro p e s m below meth c ls A hx hb hr hml hown hts hlocks hname hKX hP hD hA hS hl
  have hown : s.vm.findClass RX5 = some m.cls := hown
  have hl : lv_has ls 3 [(0, .ref h), (1, .int a), (2, .int 200)] := hl
  refine lv_aload_n hx hb dX5_hasRoom_0 rfl (lv_at hl 0 rfl) ?_
  refine va_get (D := D) (ci := 5) (v := .int 0) (C := RX5) (T := TX5) (N := 3) hx hb hts iw_X5_hasRoom_X5 hown hKX.1 hP 0 rfl rfl 1 (by decide) (hts (.fieldLink RX5 7 "TrainFerry$Row" "size" "I") (by decide +kernel)) (fun _ h9 => h9) rfl dX5_hasRoom_1 ?_
  refine lv_aload_n hx hb dX5_hasRoom_4 rfl (lv_at hl 0 rfl) ?_
  refine va_get (D := D) (ci := 5) (v := .ref w) (C := RX5) (T := TX5) (N := 3) hx hb hts iw_X5_hasRoom_X5 hown hKX.1 hP 0 rfl rfl 0 (by decide) (hts (.fieldLink RX5 24 "TrainFerry$Row" "wagons" "[LTrainFerry$Wagon;") (by decide +kernel)) (fun _ h9 => h9) rfl dX5_hasRoom_5 ?_
  refine va_alen (v := 33) hx hb hKX.1 hP 1 6 rfl rfl (by decide) dX5_hasRoom_8 ?_
  refine lv_icmp_ge (tgt := 26) hx hb dX5_hasRoom_9 (by decide) (fun c9 => absurd c9 (by decide)) (fun _ => ?_)
  refine lv_aload_n hx hb dX5_hasRoom_12 rfl (lv_at hl 0 rfl) ?_
  refine va_get (D := D) (ci := 5) (v := .int 0) (C := RX5) (T := TX5) (N := 3) hx hb hts iw_X5_hasRoom_X5 hown hKX.1 hP 0 rfl rfl 2 (by decide) (hts (.fieldLink RX5 13 "TrainFerry$Row" "length" "I") (by decide +kernel)) (fun _ h9 => h9) rfl dX5_hasRoom_13 ?_
  refine lv_iload_n hx hb dX5_hasRoom_16 rfl (lv_at hl 1 rfl) ?_
  refine lv_iadd hx hb dX5_hasRoom_17 ?_
  refine lv_iload_n hx hb dX5_hasRoom_18 rfl (lv_at hl 2 rfl) ?_
  refine lv_icmp_gt (tgt := 26) hx hb dX5_hasRoom_19 (by decide) (fun c9 => absurd c9 (wag_len ha)) (fun _ => ?_)
  refine lv_iconst (v := 1) hx hb dX5_hasRoom_22 (by decide) ?_
  refine lv_goto (tgt := 27) hx hb dX5_hasRoom_23 (by decide) ?_
  exact en_z hx hb hr hlocks rfl () rfl trivial (hP.sub [0, 1] rfl) (hD.sub [0, 1] (by decide) rfl) hS (Nat.le_of_ble_eq_true rfl) (Nat.le_of_ble_eq_true rfl) dX5_hasRoom_27
theorem iw_X5_add_X5 : ∀ w ∈ wsX50, w ∈ wsX5_add := by decide +kernel
theorem iw_X5_add_X10 : ∀ w ∈ wsX100, w ∈ wsX5_add := by decide +kernel
set_option maxHeartbeats 4000000 in
set_option maxRecDepth 100000 in
theorem c_Row_add (l : Launch) (D : va_G) (cy : Nat → ClassId) (h : Nat) (w : Nat) (g : Nat) (gw : Nat) (k0 : Int32) (k1 : Int32) (k2 : Int32) (k3 : Int32) (k4 : Int32) (sz : Nat) : Met l yX5_add wsX5_add ({ frames := 0, cells := 0, slots := 0, locals := 0 }) (wPre D cy [.ref h, .ref g] sz [(h, .inr (5, [.ref w, .int 0, .int 0])), (w, .inl (cy 6, 33, .inr (.inr (.inr (.inr (fun _ => none)))))), (g, .inr (10, [.int k0, .int k1, .int k2, .int k3, .int k4, .ref gw, .int 0, .int 0, .int 0, .int 0, .int 0, .int 0]))]) (wQv D (fun _ : Unit => True) (fun _u : Unit => [(g, .inr (10, [.int k0, .int k1, .int k2, .int k3, .int k4, .ref gw, .int 0, .int 0, .int 0, .int 0, .int 0, .int 0]))]) (va_A [(h, .inr (5, [.ref w, .int 0, .int 0])), (w, .inl (cy 6, 33, .inr (.inr (.inr (.inr (fun _ => none)))))), (g, .inr (10, [.int k0, .int k1, .int k2, .int k3, .int k4, .ref gw, .int 0, .int 0, .int 0, .int 0, .int 0, .int 0]))] sz)) 0 0 (va_A [(h, .inr (5, [.ref w, .int 0, .int 0])), (w, .inl (cy 6, 33, .inr (.inr (.inr (.inr (fun _ => none)))))), (g, .inr (10, [.int k0, .int k1, .int k2, .int k3, .int k4, .ref gw, .int 0, .int 0, .int 0, .int 0, .int 0, .int 0]))] sz) := by
  refine met_go (y := yX5_add) (ws := wsX5_add) (av := [.ref h, .ref g]) (cc := cX5_add) (maxL := 2) (ret := none) (Qc := fun A => wQv D (fun _ : Unit => True) (fun _u : Unit => [(g, .inr (10, [.int k0, .int k1, .int k2, .int k3, .int k4, .ref gw, .int 0, .int 0, .int 0, .int 0, .int 0, .int 0]))]) A) (by decide) rfl (Nat.le_of_ble_eq_true rfl) ?_
  intro p e s m below meth c ls A hx hb hr hml hown hts hlocks hname hKX hP hD hA hS hl
  have hown : s.vm.findClass RX5 = some m.cls := hown
  have hl : lv_has ls 2 [(0, .ref h), (1, .ref g)] := hl
  refine lv_aload_n hx hb dX5_add_0 rfl (lv_at hl 0 rfl) ?_
  refine va_get (D := D) (ci := 5) (v := .int 0) (C := RX5) (T := TX5) (N := 3) hx hb hts iw_X5_add_X5 hown hKX.1 hP 0 rfl rfl 1 (by decide) (hts (.fieldLink RX5 7 "TrainFerry$Row" "size" "I") (by decide +kernel)) (fun _ h9 => h9) rfl dX5_add_1 ?_
  refine lv_aload_n hx hb dX5_add_4 rfl (lv_at hl 0 rfl) ?_
  refine va_get (D := D) (ci := 5) (v := .ref w) (C := RX5) (T := TX5) (N := 3) hx hb hts iw_X5_add_X5 hown hKX.1 hP 0 rfl rfl 0 (by decide) (hts (.fieldLink RX5 24 "TrainFerry$Row" "wagons" "[LTrainFerry$Wagon;") (by decide +kernel)) (fun _ h9 => h9) rfl dX5_add_5 ?_
  refine va_alen (v := 33) hx hb hKX.1 hP 1 6 rfl rfl (by decide) dX5_add_8 ?_
  refine lv_icmp_ge (tgt := 45) hx hb dX5_add_9 (by decide) (fun c9 => absurd c9 (by decide)) (fun _ => ?_)
  refine lv_aload_n hx hb dX5_add_12 rfl (lv_at hl 0 rfl) ?_
  refine va_get (D := D) (ci := 5) (v := .ref w) (C := RX5) (T := TX5) (N := 3) hx hb hts iw_X5_add_X5 hown hKX.1 hP 0 rfl rfl 0 (by decide) (hts (.fieldLink RX5 24 "TrainFerry$Row" "wagons" "[LTrainFerry$Wagon;") (by decide +kernel)) (fun _ h9 => h9) rfl dX5_add_13 ?_
  refine lv_aload_n hx hb dX5_add_16 rfl (lv_at hl 0 rfl) ?_
  refine va_get (D := D) (ci := 5) (v := .int 0) (C := RX5) (T := TX5) (N := 3) hx hb hts iw_X5_add_X5 hown hKX.1 hP 0 rfl rfl 1 (by decide) (hts (.fieldLink RX5 7 "TrainFerry$Row" "size" "I") (by decide +kernel)) (fun _ h9 => h9) rfl dX5_add_17 ?_
  refine lv_aload_n hx hb dX5_add_20 rfl (lv_at hl 1 rfl) ?_
  refine va_astq hx hb hKX.1 hP hD hS 1 6 2 10 rfl rfl rfl rfl (vind (by decide)) dX5_add_21 (fun H locs hP hD hS => ?_)
  have hP : va_P D vwCl [(h, .inr (5, [.ref w, .int 0, .int 0])), (w, .inl (cy 6, 33, .inr (.inr (.inr (.inr (va_up (fun _ => none) 0 (some g))))))), (g, .inr (10, [.int k0, .int k1, .int k2, .int k3, .int k4, .ref gw, .int 0, .int 0, .int 0, .int 0, .int 0, .int 0]))] H := hP
  have hD : va_D A [(h, .inr (5, [.ref w, .int 0, .int 0])), (w, .inl (cy 6, 33, .inr (.inr (.inr (.inr (va_up (fun _ => none) 0 (some g))))))), (g, .inr (10, [.int k0, .int k1, .int k2, .int k3, .int k4, .ref gw, .int 0, .int 0, .int 0, .int 0, .int 0, .int 0]))] := hD
  refine lv_aload_n hx hb dX5_add_22 rfl (lv_at hl 0 rfl) ?_
  refine lv_dup hx hb dX5_add_23 rfl ?_
  refine va_get (D := D) (ci := 5) (v := .int 0) (C := RX5) (T := TX5) (N := 3) hx hb hts iw_X5_add_X5 hown hKX.1 hP 0 rfl rfl 1 (by decide) (hts (.fieldLink RX5 7 "TrainFerry$Row" "size" "I") (by decide +kernel)) (fun _ h9 => h9) rfl dX5_add_24 ?_
  refine lv_iconst (v := 1) hx hb dX5_add_27 (by decide) ?_
  refine lv_iadd hx hb dX5_add_28 ?_
  refine lv_cst 1 (by decide) ?_
  refine va_put (D := D) (ci := 5) (v := .int 1) (ty := .int) (C := RX5) (T := TX5) (N := 3) hx hb hts iw_X5_add_X5 tyX5 tyX5_ok nmX5 hown hKX.1 hP hD hS 0 rfl rfl 1 (by decide) (hts (.fieldLink RX5 7 "TrainFerry$Row" "size" "I") (by decide +kernel)) (fun _ h9 => h9) rfl (by decide +kernel) rfl rfl (Nat.le_of_ble_eq_true rfl) dX5_add_29 (fun H locs hP hD hS => ?_)
  have hP : va_P D vwCl [(h, .inr (5, [.ref w, .int 1, .int 0])), (w, .inl (cy 6, 33, .inr (.inr (.inr (.inr (va_up (fun _ => none) 0 (some g))))))), (g, .inr (10, [.int k0, .int k1, .int k2, .int k3, .int k4, .ref gw, .int 0, .int 0, .int 0, .int 0, .int 0, .int 0]))] H := hP
  have hD : va_D A [(h, .inr (5, [.ref w, .int 1, .int 0])), (w, .inl (cy 6, 33, .inr (.inr (.inr (.inr (va_up (fun _ => none) 0 (some g))))))), (g, .inr (10, [.int k0, .int k1, .int k2, .int k3, .int k4, .ref gw, .int 0, .int 0, .int 0, .int 0, .int 0, .int 0]))] := hD
  refine lv_aload_n hx hb dX5_add_32 rfl (lv_at hl 0 rfl) ?_
  refine lv_dup hx hb dX5_add_33 rfl ?_
  refine va_get (D := D) (ci := 5) (v := .int 0) (C := RX5) (T := TX5) (N := 3) hx hb hts iw_X5_add_X5 hown hKX.1 hP 0 rfl rfl 2 (by decide) (hts (.fieldLink RX5 13 "TrainFerry$Row" "length" "I") (by decide +kernel)) (fun _ h9 => h9) rfl dX5_add_34 ?_
  refine lv_aload_n hx hb dX5_add_37 rfl (lv_at hl 1 rfl) ?_
  refine va_get (D := D) (ci := 10) (v := .int k2) (C := RX10) (T := TX10) (N := 12) hx hb hts iw_X5_add_X10 hown hKX.1 hP 2 rfl rfl 2 (by decide) (hts (.fieldLink RX5 34 "TrainFerry$Wagon" "length" "I") (by decide +kernel)) (fun _ h9 => h9) rfl dX5_add_38 ?_
  refine lv_iadd hx hb dX5_add_41 ?_
  refine va_put (D := D) (ci := 5) (v := .int (0 + k2)) (ty := .int) (C := RX5) (T := TX5) (N := 3) hx hb hts iw_X5_add_X5 tyX5 tyX5_ok nmX5 hown hKX.1 hP hD hS 0 rfl rfl 2 (by decide) (hts (.fieldLink RX5 13 "TrainFerry$Row" "length" "I") (by decide +kernel)) (fun _ h9 => h9) rfl (by decide +kernel) rfl rfl (Nat.le_of_ble_eq_true rfl) dX5_add_42 (fun H locs hP hD hS => ?_)
  have hP : va_P D vwCl [(h, .inr (5, [.ref w, .int 1, .int (0 + k2)])), (w, .inl (cy 6, 33, .inr (.inr (.inr (.inr (va_up (fun _ => none) 0 (some g))))))), (g, .inr (10, [.int k0, .int k1, .int k2, .int k3, .int k4, .ref gw, .int 0, .int 0, .int 0, .int 0, .int 0, .int 0]))] H := hP
  have hD : va_D A [(h, .inr (5, [.ref w, .int 1, .int (0 + k2)])), (w, .inl (cy 6, 33, .inr (.inr (.inr (.inr (va_up (fun _ => none) 0 (some g))))))), (g, .inr (10, [.int k0, .int k1, .int k2, .int k3, .int k4, .ref gw, .int 0, .int 0, .int 0, .int 0, .int 0, .int 0]))] := hD
  exact en_v hx hb hr hlocks () trivial (hP.sub [2] rfl) (hD.sub [2] (by decide) rfl) hS (Nat.le_of_ble_eq_true rfl) (Nat.le_of_ble_eq_true rfl) dX5_add_45
theorem iw_X10_init_X10 : ∀ w ∈ wsX100, w ∈ wsX10_init := by decide +kernel
set_option maxHeartbeats 4000000 in
set_option maxRecDepth 100000 in
theorem c_Wagon_init (l : Launch) (D : va_G) (cy : Nat → ClassId) (h : Nat) (k0 : Int32) (k1 : Int32) (k2 : Int32) (k3 : Int32) (k4 : Int32) (sz : Nat) : Met l yX10_init wsX10_init ({ frames := 1, cells := 1, slots := 4, locals := 12 }) (wPre D cy [.ref h, .int k0, .int k1, .int k2, .int k3, .int k4] sz [(h, .inr (10, [.int 0, .int 0, .int 0, .int 0, .int 0, .null, .int 0, .int 0, .int 0, .int 0, .int 0, .int 0]))]) (wQv D (fun _ : (Nat → Nat) => True) (fun u : (Nat → Nat) => [(h, .inr (10, [.int k0, .int k1, .int k2, .int k3, .int k4, .ref (u 0), .int 0, .int 0, .int 0, .int 0, .int 0, .int 0])), ((u 0), .inl (cy 0, 4, .inl (fun _ => 0)))]) (va_A [(h, .inr (10, [.int 0, .int 0, .int 0, .int 0, .int 0, .null, .int 0, .int 0, .int 0, .int 0, .int 0, .int 0]))] sz)) 1 4 (va_A [(h, .inr (10, [.int 0, .int 0, .int 0, .int 0, .int 0, .null, .int 0, .int 0, .int 0, .int 0, .int 0, .int 0]))] sz) := by
  refine met_go (y := yX10_init) (ws := wsX10_init) (av := [.ref h, .int k0, .int k1, .int k2, .int k3, .int k4]) (cc := cX10_init) (maxL := 6) (ret := none) (Qc := fun A => wQv D (fun _ : (Nat → Nat) => True) (fun u : (Nat → Nat) => [(h, .inr (10, [.int k0, .int k1, .int k2, .int k3, .int k4, .ref (u 0), .int 0, .int 0, .int 0, .int 0, .int 0, .int 0])), ((u 0), .inl (cy 0, 4, .inl (fun _ => 0)))]) A) (by decide) rfl (Nat.le_of_ble_eq_true rfl) ?_
  intro p e s m below meth c ls A hx hb hr hml hown hts hlocks hname hKX hP hD hA hS hl
  have hown : s.vm.findClass RX10 = some m.cls := hown
  have hl : lv_has ls 6 [(0, .ref h), (1, .int k0), (2, .int k1), (3, .int k2), (4, .int k3), (5, .int k4)] := hl
  refine lv_aload_n hx hb dX10_init_0 rfl (lv_at hl 0 rfl) ?_
  refine W.objInit hx hb hown (hts (.methodLink RX10 3 objectInit) (by decide +kernel)) (hts (.instanceMethod objectInit) (by decide +kernel)) (hts (.code objectInit ⟨#[0xb1]⟩ 1 none) (by decide +kernel)) rfl (by rw [hml]; exact hl.1) rfl dX10_init_1 (Nat.le_of_ble_eq_true rfl) (Nat.le_of_ble_eq_true rfl) ?_
  refine W.eq (g2 := F0 m 4 ls []) rfl ?_
  refine lv_aload_n hx hb dX10_init_4 rfl (lv_at hl 0 rfl) ?_
  refine lv_iconst (v := 4) hx hb dX10_init_5 (by decide) ?_
  refine nw_a (atype := .int) (a0 := (4, .inl (fun _ => 0))) hx hb (hts (.arrayClass .int) (by decide +kernel)) (ty := .int) rfl hKX hP hD hS hA 0 rfl (fun cA => (vp_cell_i cA 4 _).trans (congrArg (arrV cA 4) (funext fun _ => rfl))) (by decide) (by decide) (by decide +kernel) (Nat.le_of_ble_eq_true rfl) (Nat.le_of_ble_eq_true rfl) dX10_init_6 (fun q1 H hP hD hS => ?_)
  have hP : va_P D vwCl [(h, .inr (10, [.int 0, .int 0, .int 0, .int 0, .int 0, .null, .int 0, .int 0, .int 0, .int 0, .int 0, .int 0])), (q1, .inl (cy 0, 4, .inl (fun _ => 0)))] H := hP
  have hD : va_D A [(h, .inr (10, [.int 0, .int 0, .int 0, .int 0, .int 0, .null, .int 0, .int 0, .int 0, .int 0, .int 0, .int 0])), (q1, .inl (cy 0, 4, .inl (fun _ => 0)))] := hD
  refine va_putF (D := D) (ci := 10) (v := .ref q1) (ty := (tyX10 5)) (C := RX10) (T := TX10) (N := 12) hx hb hts iw_X10_init_X10 tyX10 tyX10_ok nmX10 hown hKX.1 hP hD hS 0 rfl rfl 5 (by decide) (hts (.fieldLink RX10 9 "TrainFerry$Wagon" "waited" "[I") (by decide +kernel)) (fun _ h9 => h9) rfl hname rfl (by decide +kernel) rfl rfl (Nat.le_of_ble_eq_true rfl) dX10_init_8 (fun H locs hP hD hS => ?_)
  have hP : va_P D vwCl [(h, .inr (10, [.int 0, .int 0, .int 0, .int 0, .int 0, .ref q1, .int 0, .int 0, .int 0, .int 0, .int 0, .int 0])), (q1, .inl (cy 0, 4, .inl (fun _ => 0)))] H := hP
  have hD : va_D A [(h, .inr (10, [.int 0, .int 0, .int 0, .int 0, .int 0, .ref q1, .int 0, .int 0, .int 0, .int 0, .int 0, .int 0])), (q1, .inl (cy 0, 4, .inl (fun _ => 0)))] := hD
  refine lv_aload_n hx hb dX10_init_11 rfl (lv_at hl 0 rfl) ?_
  refine lv_iconst (v := 0) hx hb dX10_init_12 (by decide) ?_
  refine va_put (D := D) (ci := 10) (v := .int 0) (ty := .int) (C := RX10) (T := TX10) (N := 12) hx hb hts iw_X10_init_X10 tyX10 tyX10_ok nmX10 hown hKX.1 hP hD hS 0 rfl rfl 6 (by decide) (hts (.fieldLink RX10 15 "TrainFerry$Wagon" "waitedInAll" "I") (by decide +kernel)) (fun _ h9 => h9) rfl (by decide +kernel) rfl rfl (Nat.le_of_ble_eq_true rfl) dX10_init_13 (fun H locs hP hD hS => ?_)
  have hP : va_P D vwCl [(h, .inr (10, [.int 0, .int 0, .int 0, .int 0, .int 0, .ref q1, .int 0, .int 0, .int 0, .int 0, .int 0, .int 0])), (q1, .inl (cy 0, 4, .inl (fun _ => 0)))] H := hP
  have hD : va_D A [(h, .inr (10, [.int 0, .int 0, .int 0, .int 0, .int 0, .ref q1, .int 0, .int 0, .int 0, .int 0, .int 0, .int 0])), (q1, .inl (cy 0, 4, .inl (fun _ => 0)))] := hD
  refine lv_aload_n hx hb dX10_init_16 rfl (lv_at hl 0 rfl) ?_
  refine lv_iconst (v := 0) hx hb dX10_init_17 (by decide) ?_
  refine va_put (D := D) (ci := 10) (v := .int 0) (ty := .int) (C := RX10) (T := TX10) (N := 12) hx hb hts iw_X10_init_X10 tyX10 tyX10_ok nmX10 hown hKX.1 hP hD hS 0 rfl rfl 7 (by decide) (hts (.fieldLink RX10 19 "TrainFerry$Wagon" "ownerPays" "I") (by decide +kernel)) (fun _ h9 => h9) rfl (by decide +kernel) rfl rfl (Nat.le_of_ble_eq_true rfl) dX10_init_18 (fun H locs hP hD hS => ?_)
  have hP : va_P D vwCl [(h, .inr (10, [.int 0, .int 0, .int 0, .int 0, .int 0, .ref q1, .int 0, .int 0, .int 0, .int 0, .int 0, .int 0])), (q1, .inl (cy 0, 4, .inl (fun _ => 0)))] H := hP
  have hD : va_D A [(h, .inr (10, [.int 0, .int 0, .int 0, .int 0, .int 0, .ref q1, .int 0, .int 0, .int 0, .int 0, .int 0, .int 0])), (q1, .inl (cy 0, 4, .inl (fun _ => 0)))] := hD
  refine lv_aload_n hx hb dX10_init_21 rfl (lv_at hl 0 rfl) ?_
  refine lv_iconst (v := 0) hx hb dX10_init_22 (by decide) ?_
  refine va_put (D := D) (ci := 10) (v := .int 0) (ty := .int) (C := RX10) (T := TX10) (N := 12) hx hb hts iw_X10_init_X10 tyX10 tyX10_ok nmX10 hown hKX.1 hP hD hS 0 rfl rfl 8 (by decide) (hts (.fieldLink RX10 22 "TrainFerry$Wagon" "ferryPays" "I") (by decide +kernel)) (fun _ h9 => h9) rfl (by decide +kernel) rfl rfl (Nat.le_of_ble_eq_true rfl) dX10_init_23 (fun H locs hP hD hS => ?_)
  have hP : va_P D vwCl [(h, .inr (10, [.int 0, .int 0, .int 0, .int 0, .int 0, .ref q1, .int 0, .int 0, .int 0, .int 0, .int 0, .int 0])), (q1, .inl (cy 0, 4, .inl (fun _ => 0)))] H := hP
  have hD : va_D A [(h, .inr (10, [.int 0, .int 0, .int 0, .int 0, .int 0, .ref q1, .int 0, .int 0, .int 0, .int 0, .int 0, .int 0])), (q1, .inl (cy 0, 4, .inl (fun _ => 0)))] := hD
  refine lv_aload_n hx hb dX10_init_26 rfl (lv_at hl 0 rfl) ?_
  refine lv_iconst (v := 0) hx hb dX10_init_27 (by decide) ?_
  refine va_put (D := D) (ci := 10) (v := .int 0) (ty := .int) (C := RX10) (T := TX10) (N := 12) hx hb hts iw_X10_init_X10 tyX10 tyX10_ok nmX10 hown hKX.1 hP hD hS 0 rfl rfl 9 (by decide) (hts (.fieldLink RX10 25 "TrainFerry$Wagon" "standsAt" "I") (by decide +kernel)) (fun _ h9 => h9) rfl (by decide +kernel) rfl rfl (Nat.le_of_ble_eq_true rfl) dX10_init_28 (fun H locs hP hD hS => ?_)
  have hP : va_P D vwCl [(h, .inr (10, [.int 0, .int 0, .int 0, .int 0, .int 0, .ref q1, .int 0, .int 0, .int 0, .int 0, .int 0, .int 0])), (q1, .inl (cy 0, 4, .inl (fun _ => 0)))] H := hP
  have hD : va_D A [(h, .inr (10, [.int 0, .int 0, .int 0, .int 0, .int 0, .ref q1, .int 0, .int 0, .int 0, .int 0, .int 0, .int 0])), (q1, .inl (cy 0, 4, .inl (fun _ => 0)))] := hD
  refine lv_aload_n hx hb dX10_init_31 rfl (lv_at hl 0 rfl) ?_
  refine lv_iconst (v := 0) hx hb dX10_init_32 (by decide) ?_
  refine va_put (D := D) (ci := 10) (v := .int 0) (ty := .int) (C := RX10) (T := TX10) (N := 12) hx hb hts iw_X10_init_X10 tyX10 tyX10_ok nmX10 hown hKX.1 hP hD hS 0 rfl rfl 10 (by decide) (hts (.fieldLink RX10 28 "TrainFerry$Wagon" "track" "I") (by decide +kernel)) (fun _ h9 => h9) rfl (by decide +kernel) rfl rfl (Nat.le_of_ble_eq_true rfl) dX10_init_33 (fun H locs hP hD hS => ?_)
  have hP : va_P D vwCl [(h, .inr (10, [.int 0, .int 0, .int 0, .int 0, .int 0, .ref q1, .int 0, .int 0, .int 0, .int 0, .int 0, .int 0])), (q1, .inl (cy 0, 4, .inl (fun _ => 0)))] H := hP
  have hD : va_D A [(h, .inr (10, [.int 0, .int 0, .int 0, .int 0, .int 0, .ref q1, .int 0, .int 0, .int 0, .int 0, .int 0, .int 0])), (q1, .inl (cy 0, 4, .inl (fun _ => 0)))] := hD
  refine lv_aload_n hx hb dX10_init_36 rfl (lv_at hl 0 rfl) ?_
  refine lv_iconst (v := 0) hx hb dX10_init_37 (by decide) ?_
  refine va_put (D := D) (ci := 10) (v := .int 0) (ty := .boolean) (C := RX10) (T := TX10) (N := 12) hx hb hts iw_X10_init_X10 tyX10 tyX10_ok nmX10 hown hKX.1 hP hD hS 0 rfl rfl 11 (by decide) (hts (.fieldLink RX10 31 "TrainFerry$Wagon" "wasOnDeck" "Z") (by decide +kernel)) (fun _ h9 => h9) rfl (by decide +kernel) rfl rfl (Nat.le_of_ble_eq_true rfl) dX10_init_38 (fun H locs hP hD hS => ?_)
  have hP : va_P D vwCl [(h, .inr (10, [.int 0, .int 0, .int 0, .int 0, .int 0, .ref q1, .int 0, .int 0, .int 0, .int 0, .int 0, .int 0])), (q1, .inl (cy 0, 4, .inl (fun _ => 0)))] H := hP
  have hD : va_D A [(h, .inr (10, [.int 0, .int 0, .int 0, .int 0, .int 0, .ref q1, .int 0, .int 0, .int 0, .int 0, .int 0, .int 0])), (q1, .inl (cy 0, 4, .inl (fun _ => 0)))] := hD
  refine lv_aload_n hx hb dX10_init_41 rfl (lv_at hl 0 rfl) ?_
  refine lv_iload_n hx hb dX10_init_42 rfl (lv_at hl 1 rfl) ?_
  refine va_putF (D := D) (ci := 10) (v := .int k0) (ty := .int) (C := RX10) (T := TX10) (N := 12) hx hb hts iw_X10_init_X10 tyX10 tyX10_ok nmX10 hown hKX.1 hP hD hS 0 rfl rfl 0 (by decide) (hts (.fieldLink RX10 35 "TrainFerry$Wagon" "number" "I") (by decide +kernel)) (fun _ h9 => h9) rfl hname rfl (by decide +kernel) rfl rfl (Nat.le_of_ble_eq_true rfl) dX10_init_43 (fun H locs hP hD hS => ?_)
  have hP : va_P D vwCl [(h, .inr (10, [.int k0, .int 0, .int 0, .int 0, .int 0, .ref q1, .int 0, .int 0, .int 0, .int 0, .int 0, .int 0])), (q1, .inl (cy 0, 4, .inl (fun _ => 0)))] H := hP
  have hD : va_D A [(h, .inr (10, [.int k0, .int 0, .int 0, .int 0, .int 0, .ref q1, .int 0, .int 0, .int 0, .int 0, .int 0, .int 0])), (q1, .inl (cy 0, 4, .inl (fun _ => 0)))] := hD
  refine lv_aload_n hx hb dX10_init_46 rfl (lv_at hl 0 rfl) ?_
  refine lv_iload_n hx hb dX10_init_47 rfl (lv_at hl 2 rfl) ?_
  refine va_putF (D := D) (ci := 10) (v := .int k1) (ty := .int) (C := RX10) (T := TX10) (N := 12) hx hb hts iw_X10_init_X10 tyX10 tyX10_ok nmX10 hown hKX.1 hP hD hS 0 rfl rfl 1 (by decide) (hts (.fieldLink RX10 38 "TrainFerry$Wagon" "home" "I") (by decide +kernel)) (fun _ h9 => h9) rfl hname rfl (by decide +kernel) rfl rfl (Nat.le_of_ble_eq_true rfl) dX10_init_48 (fun H locs hP hD hS => ?_)
  have hP : va_P D vwCl [(h, .inr (10, [.int k0, .int k1, .int 0, .int 0, .int 0, .ref q1, .int 0, .int 0, .int 0, .int 0, .int 0, .int 0])), (q1, .inl (cy 0, 4, .inl (fun _ => 0)))] H := hP
  have hD : va_D A [(h, .inr (10, [.int k0, .int k1, .int 0, .int 0, .int 0, .ref q1, .int 0, .int 0, .int 0, .int 0, .int 0, .int 0])), (q1, .inl (cy 0, 4, .inl (fun _ => 0)))] := hD
  refine lv_aload_n hx hb dX10_init_51 rfl (lv_at hl 0 rfl) ?_
  refine lv_iload_n hx hb dX10_init_52 rfl (lv_at hl 3 rfl) ?_
  refine va_putF (D := D) (ci := 10) (v := .int k2) (ty := .int) (C := RX10) (T := TX10) (N := 12) hx hb hts iw_X10_init_X10 tyX10 tyX10_ok nmX10 hown hKX.1 hP hD hS 0 rfl rfl 2 (by decide) (hts (.fieldLink RX10 41 "TrainFerry$Wagon" "length" "I") (by decide +kernel)) (fun _ h9 => h9) rfl hname rfl (by decide +kernel) rfl rfl (Nat.le_of_ble_eq_true rfl) dX10_init_53 (fun H locs hP hD hS => ?_)
  have hP : va_P D vwCl [(h, .inr (10, [.int k0, .int k1, .int k2, .int 0, .int 0, .ref q1, .int 0, .int 0, .int 0, .int 0, .int 0, .int 0])), (q1, .inl (cy 0, 4, .inl (fun _ => 0)))] H := hP
  have hD : va_D A [(h, .inr (10, [.int k0, .int k1, .int k2, .int 0, .int 0, .ref q1, .int 0, .int 0, .int 0, .int 0, .int 0, .int 0])), (q1, .inl (cy 0, 4, .inl (fun _ => 0)))] := hD
  refine lv_aload_n hx hb dX10_init_56 rfl (lv_at hl 0 rfl) ?_
  refine lv_iload hx hb dX10_init_57 (lv_at hl 4 rfl) ?_
  refine va_putF (D := D) (ci := 10) (v := .int k3) (ty := .int) (C := RX10) (T := TX10) (N := 12) hx hb hts iw_X10_init_X10 tyX10 tyX10_ok nmX10 hown hKX.1 hP hD hS 0 rfl rfl 3 (by decide) (hts (.fieldLink RX10 44 "TrainFerry$Wagon" "weight" "I") (by decide +kernel)) (fun _ h9 => h9) rfl hname rfl (by decide +kernel) rfl rfl (Nat.le_of_ble_eq_true rfl) dX10_init_59 (fun H locs hP hD hS => ?_)
  have hP : va_P D vwCl [(h, .inr (10, [.int k0, .int k1, .int k2, .int k3, .int 0, .ref q1, .int 0, .int 0, .int 0, .int 0, .int 0, .int 0])), (q1, .inl (cy 0, 4, .inl (fun _ => 0)))] H := hP
  have hD : va_D A [(h, .inr (10, [.int k0, .int k1, .int k2, .int k3, .int 0, .ref q1, .int 0, .int 0, .int 0, .int 0, .int 0, .int 0])), (q1, .inl (cy 0, 4, .inl (fun _ => 0)))] := hD
  refine lv_aload_n hx hb dX10_init_62 rfl (lv_at hl 0 rfl) ?_
  refine lv_iload hx hb dX10_init_63 (lv_at hl 5 rfl) ?_
  refine va_putF (D := D) (ci := 10) (v := .int k4) (ty := .int) (C := RX10) (T := TX10) (N := 12) hx hb hts iw_X10_init_X10 tyX10 tyX10_ok nmX10 hown hKX.1 hP hD hS 0 rfl rfl 4 (by decide) (hts (.fieldLink RX10 47 "TrainFerry$Wagon" "kind" "I") (by decide +kernel)) (fun _ h9 => h9) rfl hname rfl (by decide +kernel) rfl rfl (Nat.le_of_ble_eq_true rfl) dX10_init_65 (fun H locs hP hD hS => ?_)
  have hP : va_P D vwCl [(h, .inr (10, [.int k0, .int k1, .int k2, .int k3, .int k4, .ref q1, .int 0, .int 0, .int 0, .int 0, .int 0, .int 0])), (q1, .inl (cy 0, 4, .inl (fun _ => 0)))] H := hP
  have hD : va_D A [(h, .inr (10, [.int k0, .int k1, .int k2, .int k3, .int k4, .ref q1, .int 0, .int 0, .int 0, .int 0, .int 0, .int 0])), (q1, .inl (cy 0, 4, .inl (fun _ => 0)))] := hD
  exact en_v hx hb hr hlocks (lk [q1]) trivial (hP.sub [0, 1] rfl) (hD.sub [0, 1] (by decide) rfl) hS (Nat.le_of_ble_eq_true rfl) (Nat.le_of_ble_eq_true rfl) dX10_init_68
theorem iw_X10_standAt_X10 : ∀ w ∈ wsX100, w ∈ wsX10_standAt := by decide +kernel
set_option maxHeartbeats 4000000 in
set_option maxRecDepth 100000 in
theorem c_standAt (l : Launch) (D : va_G) (cy : Nat → ClassId) (h : Nat) (gw : Nat) (k0 : Int32) (k1 : Int32) (k2 : Int32) (k3 : Int32) (k4 : Int32) (a : Int32) (b : Int32) (sz : Nat) : Met l yX10_standAt wsX10_standAt ({ frames := 0, cells := 0, slots := 0, locals := 0 }) (wPre D cy [.ref h, .int a, .int b] sz [(h, .inr (10, [.int k0, .int k1, .int k2, .int k3, .int k4, .ref gw, .int 0, .int 0, .int 0, .int 0, .int 0, .int 0]))]) (wQv D (fun _ : Unit => True) (fun _u : Unit => [(h, .inr (10, [.int k0, .int k1, .int k2, .int k3, .int k4, .ref gw, .int 0, .int 0, .int 0, .int a, .int b, .int 0]))]) (va_A [(h, .inr (10, [.int k0, .int k1, .int k2, .int k3, .int k4, .ref gw, .int 0, .int 0, .int 0, .int 0, .int 0, .int 0]))] sz)) 0 0 (va_A [(h, .inr (10, [.int k0, .int k1, .int k2, .int k3, .int k4, .ref gw, .int 0, .int 0, .int 0, .int 0, .int 0, .int 0]))] sz) := by
  refine met_go (y := yX10_standAt) (ws := wsX10_standAt) (av := [.ref h, .int a, .int b]) (cc := cX10_standAt) (maxL := 3) (ret := none) (Qc := fun A => wQv D (fun _ : Unit => True) (fun _u : Unit => [(h, .inr (10, [.int k0, .int k1, .int k2, .int k3, .int k4, .ref gw, .int 0, .int 0, .int 0, .int a, .int b, .int 0]))]) A) (by decide) rfl (Nat.le_of_ble_eq_true rfl) ?_
  intro p e s m below meth c ls A hx hb hr hml hown hts hlocks hname hKX hP hD hA hS hl
  have hown : s.vm.findClass RX10 = some m.cls := hown
  have hl : lv_has ls 3 [(0, .ref h), (1, .int a), (2, .int b)] := hl
  refine lv_aload_n hx hb dX10_standAt_0 rfl (lv_at hl 0 rfl) ?_
  refine lv_iload_n hx hb dX10_standAt_1 rfl (lv_at hl 1 rfl) ?_
  refine va_put (D := D) (ci := 10) (v := .int a) (ty := .int) (C := RX10) (T := TX10) (N := 12) hx hb hts iw_X10_standAt_X10 tyX10 tyX10_ok nmX10 hown hKX.1 hP hD hS 0 rfl rfl 9 (by decide) (hts (.fieldLink RX10 25 "TrainFerry$Wagon" "standsAt" "I") (by decide +kernel)) (fun _ h9 => h9) rfl (by decide +kernel) rfl rfl (Nat.le_of_ble_eq_true rfl) dX10_standAt_2 (fun H locs hP hD hS => ?_)
  have hP : va_P D vwCl [(h, .inr (10, [.int k0, .int k1, .int k2, .int k3, .int k4, .ref gw, .int 0, .int 0, .int 0, .int a, .int 0, .int 0]))] H := hP
  have hD : va_D A [(h, .inr (10, [.int k0, .int k1, .int k2, .int k3, .int k4, .ref gw, .int 0, .int 0, .int 0, .int a, .int 0, .int 0]))] := hD
  refine lv_aload_n hx hb dX10_standAt_5 rfl (lv_at hl 0 rfl) ?_
  refine lv_iload_n hx hb dX10_standAt_6 rfl (lv_at hl 2 rfl) ?_
  refine va_put (D := D) (ci := 10) (v := .int b) (ty := .int) (C := RX10) (T := TX10) (N := 12) hx hb hts iw_X10_standAt_X10 tyX10 tyX10_ok nmX10 hown hKX.1 hP hD hS 0 rfl rfl 10 (by decide) (hts (.fieldLink RX10 28 "TrainFerry$Wagon" "track" "I") (by decide +kernel)) (fun _ h9 => h9) rfl (by decide +kernel) rfl rfl (Nat.le_of_ble_eq_true rfl) dX10_standAt_7 (fun H locs hP hD hS => ?_)
  have hP : va_P D vwCl [(h, .inr (10, [.int k0, .int k1, .int k2, .int k3, .int k4, .ref gw, .int 0, .int 0, .int 0, .int a, .int b, .int 0]))] H := hP
  have hD : va_D A [(h, .inr (10, [.int k0, .int k1, .int k2, .int k3, .int k4, .ref gw, .int 0, .int 0, .int 0, .int a, .int b, .int 0]))] := hD
  exact en_v hx hb hr hlocks () trivial (hP.sub [0] rfl) (hD.sub [0] (by decide) rfl) hS (Nat.le_of_ble_eq_true rfl) (Nat.le_of_ble_eq_true rfl) dX10_standAt_10
theorem iw_X11_yardRow_X11 : ∀ w ∈ wsX110, w ∈ wsX11_yardRow := by decide +kernel
theorem iw_X11_yardRow_X7 : ∀ w ∈ wsX70, w ∈ wsX11_yardRow := by decide +kernel
set_option maxHeartbeats 4000000 in
set_option maxRecDepth 100000 in
theorem c_yardRow_00 (l : Launch) (D : va_G) (cy : Nat → ClassId) (xh : Nat) (xq : Nat → Nat) (sz : Nat) : Met l yX11_yardRow wsX11_yardRow ({ frames := 2, cells := 0, slots := 0, locals := 42 }) (wPre D cy [.ref xh, .int 0, .int 0] sz [(xc0 cy xh xq), (xc1 cy xh xq), (xc2 cy xh xq), (xc3 cy xh xq)]) (wQq D (fun _u : Unit => some (xq 3)) (fun _ : Unit => True) (fun _u : Unit => [(xc0 cy xh xq), (xc1 cy xh xq), (xc2 cy xh xq), (xc3 cy xh xq)]) (va_A [(xc0 cy xh xq), (xc1 cy xh xq), (xc2 cy xh xq), (xc3 cy xh xq)] sz)) 0 0 (va_A [(xc0 cy xh xq), (xc1 cy xh xq), (xc2 cy xh xq), (xc3 cy xh xq)] sz) := by
  refine met_go (y := yX11_yardRow) (ws := wsX11_yardRow) (av := [.ref xh, .int 0, .int 0]) (cc := cX11_yardRow) (maxL := 3) (ret := (some (.object "TrainFerry$Row"))) (Qc := fun A => wQq D (fun _u : Unit => some (xq 3)) (fun _ : Unit => True) (fun _u : Unit => [(xc0 cy xh xq), (xc1 cy xh xq), (xc2 cy xh xq), (xc3 cy xh xq)]) A) (by decide) rfl (Nat.le_of_ble_eq_true rfl) ?_
  intro p e s m below meth c ls A hx hb hr hml hown hts hlocks hname hKX hP hD hA hS hl
  have hown : s.vm.findClass RX11 = some m.cls := hown
  have hl : lv_has ls 3 [(0, .ref xh), (1, .int 0), (2, .int 0)] := hl
  refine lv_iload_n hx hb dX11_yardRow_0 rfl (lv_at hl 1 rfl) ?_
  refine cl_i (wr := [(xc0 cy xh xq), (xc1 cy xh xq), (xc2 cy xh xq), (xc3 cy xh xq)]) (va_runS (As := [.int 0]) (rest := []) ⟨hx, hb, hml, hown, hts⟩ (c_isShore l D cy 0 _) (va_cwS 1 hts gX11_yardRow_X11_isShore rfl rfl rfl (by decide +kernel) ⟨(Nat.le_of_ble_eq_true rfl), (Nat.le_of_ble_eq_true rfl)⟩) (pre_S hKX hP hD [] rfl (by decide) rfl) rfl rfl hl.1 rfl (lv_room (Nat.le_of_ble_eq_true rfl)) dX11_yardRow_1 ⟨(Nat.le_of_ble_eq_true rfl), (Nat.le_of_ble_eq_true rfl)⟩) hP hD hS hA [] [0, 1, 2, 3] rfl rfl (by decide) (by decide) (fun u1 H locs _ hP hD hS => ?_)
  have hP : va_P D vwCl [(xc0 cy xh xq), (xc1 cy xh xq), (xc2 cy xh xq), (xc3 cy xh xq)] H := hP
  have hD : va_D A [(xc0 cy xh xq), (xc1 cy xh xq), (xc2 cy xh xq), (xc3 cy xh xq)] := hD
  refine lv_cst 1 (by decide) ?_
  refine lv_if_eq (tgt := 16) hx hb dX11_yardRow_4 (by decide) (fun c9 => absurd c9 (by decide)) (fun _ => ?_)
  refine lv_iload_n hx hb dX11_yardRow_7 rfl (lv_at hl 2 rfl) ?_
  refine lv_iconst (v := 0) hx hb dX11_yardRow_8 (by decide) ?_
  refine lv_iconst (v := 2) hx hb dX11_yardRow_9 (by decide) ?_
  refine cl_i (wr := [(xc0 cy xh xq), (xc1 cy xh xq), (xc2 cy xh xq), (xc3 cy xh xq)]) (va_runS (As := [.int 0, .int 0, .int 2]) (rest := []) ⟨hx, hb, hml, hown, hts⟩ (c_isWithin l D cy 0 0 2 _) (va_cwS 3 hts gX11_yardRow_X11_isWithin rfl rfl rfl (by decide +kernel) ⟨(Nat.le_of_ble_eq_true rfl), (Nat.le_of_ble_eq_true rfl)⟩) (pre_S hKX hP hD [] rfl (by decide) rfl) rfl rfl hl.1 rfl (lv_room (Nat.le_of_ble_eq_true rfl)) dX11_yardRow_10 ⟨(Nat.le_of_ble_eq_true rfl), (Nat.le_of_ble_eq_true rfl)⟩) hP hD hS hA [] [0, 1, 2, 3] rfl rfl (by decide) (by decide) (fun u2 H locs _ hP hD hS => ?_)
  have hP : va_P D vwCl [(xc0 cy xh xq), (xc1 cy xh xq), (xc2 cy xh xq), (xc3 cy xh xq)] H := hP
  have hD : va_D A [(xc0 cy xh xq), (xc1 cy xh xq), (xc2 cy xh xq), (xc3 cy xh xq)] := hD
  refine lv_cst 1 (by decide) ?_
  refine lv_if_ne (tgt := 18) hx hb dX11_yardRow_13 (by decide) (fun _ => ?_) (fun c9 => absurd c9 (by decide))
  refine lv_aload_n hx hb dX11_yardRow_18 rfl (lv_at hl 0 rfl) ?_
  refine va_get (D := D) (ci := 11) (v := .ref (xq 0)) (C := RX11) (T := TX11) (N := 18) hx hb hts iw_X11_yardRow_X11 hown hKX.1 hP 0 rfl rfl 0 (by decide) (hts (.fieldLink RX11 10 "TrainFerry" "shores" "[LTrainFerry$Shore;") (by decide +kernel)) (fun _ h9 => h9) rfl dX11_yardRow_19 ?_
  refine lv_iload_n hx hb dX11_yardRow_22 rfl (lv_at hl 1 rfl) ?_
  refine va_aldq hx hb hKX.1 hP 1 5 rfl rfl (vind (by decide)) dX11_yardRow_23 ?_
  refine lv_csv (.ref (xq 1)) rfl ?_
  refine va_get (D := D) (ci := 7) (v := .ref (xq 2)) (C := RX7) (T := TX7) (N := 3) hx hb hts iw_X11_yardRow_X7 hown hKX.1 hP 2 rfl rfl 0 (by decide) (hts (.fieldLink RX11 302 "TrainFerry$Shore" "rows" "[LTrainFerry$Row;") (by decide +kernel)) (fun _ h9 => h9) rfl dX11_yardRow_24 ?_
  refine lv_iload_n hx hb dX11_yardRow_27 rfl (lv_at hl 2 rfl) ?_
  refine va_aldq hx hb hKX.1 hP 3 4 rfl rfl (vind (by decide)) dX11_yardRow_28 ?_
  refine lv_csv (.ref (xq 3)) rfl ?_
  exact en_q (v' := (some (xq 3))) hx hb hr (Or.inl ⟨_, rfl⟩) hlocks rfl () rfl trivial (hP.sub [0, 1, 2, 3] rfl) (hD.sub [0, 1, 2, 3] (by decide) rfl) hS (Nat.le_of_ble_eq_true rfl) (Nat.le_of_ble_eq_true rfl) dX11_yardRow_29
set_option maxHeartbeats 4000000 in
set_option maxRecDepth 100000 in
theorem c_yardRow_01 (l : Launch) (D : va_G) (cy : Nat → ClassId) (xh : Nat) (xq : Nat → Nat) (sz : Nat) : Met l yX11_yardRow wsX11_yardRow ({ frames := 2, cells := 0, slots := 0, locals := 42 }) (wPre D cy [.ref xh, .int 0, .int 1] sz [(xc0 cy xh xq), (xc1 cy xh xq), (xc2 cy xh xq), (xc3 cy xh xq)]) (wQq D (fun _u : Unit => some (xq 5)) (fun _ : Unit => True) (fun _u : Unit => [(xc0 cy xh xq), (xc1 cy xh xq), (xc2 cy xh xq), (xc3 cy xh xq)]) (va_A [(xc0 cy xh xq), (xc1 cy xh xq), (xc2 cy xh xq), (xc3 cy xh xq)] sz)) 0 0 (va_A [(xc0 cy xh xq), (xc1 cy xh xq), (xc2 cy xh xq), (xc3 cy xh xq)] sz) := by
  refine met_go (y := yX11_yardRow) (ws := wsX11_yardRow) (av := [.ref xh, .int 0, .int 1]) (cc := cX11_yardRow) (maxL := 3) (ret := (some (.object "TrainFerry$Row"))) (Qc := fun A => wQq D (fun _u : Unit => some (xq 5)) (fun _ : Unit => True) (fun _u : Unit => [(xc0 cy xh xq), (xc1 cy xh xq), (xc2 cy xh xq), (xc3 cy xh xq)]) A) (by decide) rfl (Nat.le_of_ble_eq_true rfl) ?_
  intro p e s m below meth c ls A hx hb hr hml hown hts hlocks hname hKX hP hD hA hS hl
  have hown : s.vm.findClass RX11 = some m.cls := hown
  have hl : lv_has ls 3 [(0, .ref xh), (1, .int 0), (2, .int 1)] := hl
  refine lv_iload_n hx hb dX11_yardRow_0 rfl (lv_at hl 1 rfl) ?_
  refine cl_i (wr := [(xc0 cy xh xq), (xc1 cy xh xq), (xc2 cy xh xq), (xc3 cy xh xq)]) (va_runS (As := [.int 0]) (rest := []) ⟨hx, hb, hml, hown, hts⟩ (c_isShore l D cy 0 _) (va_cwS 1 hts gX11_yardRow_X11_isShore rfl rfl rfl (by decide +kernel) ⟨(Nat.le_of_ble_eq_true rfl), (Nat.le_of_ble_eq_true rfl)⟩) (pre_S hKX hP hD [] rfl (by decide) rfl) rfl rfl hl.1 rfl (lv_room (Nat.le_of_ble_eq_true rfl)) dX11_yardRow_1 ⟨(Nat.le_of_ble_eq_true rfl), (Nat.le_of_ble_eq_true rfl)⟩) hP hD hS hA [] [0, 1, 2, 3] rfl rfl (by decide) (by decide) (fun u1 H locs _ hP hD hS => ?_)
  have hP : va_P D vwCl [(xc0 cy xh xq), (xc1 cy xh xq), (xc2 cy xh xq), (xc3 cy xh xq)] H := hP
  have hD : va_D A [(xc0 cy xh xq), (xc1 cy xh xq), (xc2 cy xh xq), (xc3 cy xh xq)] := hD
  refine lv_cst 1 (by decide) ?_
  refine lv_if_eq (tgt := 16) hx hb dX11_yardRow_4 (by decide) (fun c9 => absurd c9 (by decide)) (fun _ => ?_)
  refine lv_iload_n hx hb dX11_yardRow_7 rfl (lv_at hl 2 rfl) ?_
  refine lv_iconst (v := 0) hx hb dX11_yardRow_8 (by decide) ?_
  refine lv_iconst (v := 2) hx hb dX11_yardRow_9 (by decide) ?_
  refine cl_i (wr := [(xc0 cy xh xq), (xc1 cy xh xq), (xc2 cy xh xq), (xc3 cy xh xq)]) (va_runS (As := [.int 1, .int 0, .int 2]) (rest := []) ⟨hx, hb, hml, hown, hts⟩ (c_isWithin l D cy 1 0 2 _) (va_cwS 3 hts gX11_yardRow_X11_isWithin rfl rfl rfl (by decide +kernel) ⟨(Nat.le_of_ble_eq_true rfl), (Nat.le_of_ble_eq_true rfl)⟩) (pre_S hKX hP hD [] rfl (by decide) rfl) rfl rfl hl.1 rfl (lv_room (Nat.le_of_ble_eq_true rfl)) dX11_yardRow_10 ⟨(Nat.le_of_ble_eq_true rfl), (Nat.le_of_ble_eq_true rfl)⟩) hP hD hS hA [] [0, 1, 2, 3] rfl rfl (by decide) (by decide) (fun u2 H locs _ hP hD hS => ?_)
  have hP : va_P D vwCl [(xc0 cy xh xq), (xc1 cy xh xq), (xc2 cy xh xq), (xc3 cy xh xq)] H := hP
  have hD : va_D A [(xc0 cy xh xq), (xc1 cy xh xq), (xc2 cy xh xq), (xc3 cy xh xq)] := hD
  refine lv_cst 1 (by decide) ?_
  refine lv_if_ne (tgt := 18) hx hb dX11_yardRow_13 (by decide) (fun _ => ?_) (fun c9 => absurd c9 (by decide))
  refine lv_aload_n hx hb dX11_yardRow_18 rfl (lv_at hl 0 rfl) ?_
  refine va_get (D := D) (ci := 11) (v := .ref (xq 0)) (C := RX11) (T := TX11) (N := 18) hx hb hts iw_X11_yardRow_X11 hown hKX.1 hP 0 rfl rfl 0 (by decide) (hts (.fieldLink RX11 10 "TrainFerry" "shores" "[LTrainFerry$Shore;") (by decide +kernel)) (fun _ h9 => h9) rfl dX11_yardRow_19 ?_
  refine lv_iload_n hx hb dX11_yardRow_22 rfl (lv_at hl 1 rfl) ?_
  refine va_aldq hx hb hKX.1 hP 1 5 rfl rfl (vind (by decide)) dX11_yardRow_23 ?_
  refine lv_csv (.ref (xq 1)) rfl ?_
  refine va_get (D := D) (ci := 7) (v := .ref (xq 2)) (C := RX7) (T := TX7) (N := 3) hx hb hts iw_X11_yardRow_X7 hown hKX.1 hP 2 rfl rfl 0 (by decide) (hts (.fieldLink RX11 302 "TrainFerry$Shore" "rows" "[LTrainFerry$Row;") (by decide +kernel)) (fun _ h9 => h9) rfl dX11_yardRow_24 ?_
  refine lv_iload_n hx hb dX11_yardRow_27 rfl (lv_at hl 2 rfl) ?_
  refine va_aldq hx hb hKX.1 hP 3 4 rfl rfl (vind (by decide)) dX11_yardRow_28 ?_
  refine lv_csv (.ref (xq 5)) rfl ?_
  exact en_q (v' := (some (xq 5))) hx hb hr (Or.inl ⟨_, rfl⟩) hlocks rfl () rfl trivial (hP.sub [0, 1, 2, 3] rfl) (hD.sub [0, 1, 2, 3] (by decide) rfl) hS (Nat.le_of_ble_eq_true rfl) (Nat.le_of_ble_eq_true rfl) dX11_yardRow_29
set_option maxHeartbeats 4000000 in
set_option maxRecDepth 100000 in
theorem c_yardRow_02 (l : Launch) (D : va_G) (cy : Nat → ClassId) (xh : Nat) (xq : Nat → Nat) (sz : Nat) : Met l yX11_yardRow wsX11_yardRow ({ frames := 2, cells := 0, slots := 0, locals := 42 }) (wPre D cy [.ref xh, .int 0, .int 2] sz [(xc0 cy xh xq), (xc1 cy xh xq), (xc2 cy xh xq), (xc3 cy xh xq)]) (wQq D (fun _u : Unit => some (xq 7)) (fun _ : Unit => True) (fun _u : Unit => [(xc0 cy xh xq), (xc1 cy xh xq), (xc2 cy xh xq), (xc3 cy xh xq)]) (va_A [(xc0 cy xh xq), (xc1 cy xh xq), (xc2 cy xh xq), (xc3 cy xh xq)] sz)) 0 0 (va_A [(xc0 cy xh xq), (xc1 cy xh xq), (xc2 cy xh xq), (xc3 cy xh xq)] sz) := by
  refine met_go (y := yX11_yardRow) (ws := wsX11_yardRow) (av := [.ref xh, .int 0, .int 2]) (cc := cX11_yardRow) (maxL := 3) (ret := (some (.object "TrainFerry$Row"))) (Qc := fun A => wQq D (fun _u : Unit => some (xq 7)) (fun _ : Unit => True) (fun _u : Unit => [(xc0 cy xh xq), (xc1 cy xh xq), (xc2 cy xh xq), (xc3 cy xh xq)]) A) (by decide) rfl (Nat.le_of_ble_eq_true rfl) ?_
  intro p e s m below meth c ls A hx hb hr hml hown hts hlocks hname hKX hP hD hA hS hl
  have hown : s.vm.findClass RX11 = some m.cls := hown
  have hl : lv_has ls 3 [(0, .ref xh), (1, .int 0), (2, .int 2)] := hl
  refine lv_iload_n hx hb dX11_yardRow_0 rfl (lv_at hl 1 rfl) ?_
  refine cl_i (wr := [(xc0 cy xh xq), (xc1 cy xh xq), (xc2 cy xh xq), (xc3 cy xh xq)]) (va_runS (As := [.int 0]) (rest := []) ⟨hx, hb, hml, hown, hts⟩ (c_isShore l D cy 0 _) (va_cwS 1 hts gX11_yardRow_X11_isShore rfl rfl rfl (by decide +kernel) ⟨(Nat.le_of_ble_eq_true rfl), (Nat.le_of_ble_eq_true rfl)⟩) (pre_S hKX hP hD [] rfl (by decide) rfl) rfl rfl hl.1 rfl (lv_room (Nat.le_of_ble_eq_true rfl)) dX11_yardRow_1 ⟨(Nat.le_of_ble_eq_true rfl), (Nat.le_of_ble_eq_true rfl)⟩) hP hD hS hA [] [0, 1, 2, 3] rfl rfl (by decide) (by decide) (fun u1 H locs _ hP hD hS => ?_)
  have hP : va_P D vwCl [(xc0 cy xh xq), (xc1 cy xh xq), (xc2 cy xh xq), (xc3 cy xh xq)] H := hP
  have hD : va_D A [(xc0 cy xh xq), (xc1 cy xh xq), (xc2 cy xh xq), (xc3 cy xh xq)] := hD
  refine lv_cst 1 (by decide) ?_
  refine lv_if_eq (tgt := 16) hx hb dX11_yardRow_4 (by decide) (fun c9 => absurd c9 (by decide)) (fun _ => ?_)
  refine lv_iload_n hx hb dX11_yardRow_7 rfl (lv_at hl 2 rfl) ?_
  refine lv_iconst (v := 0) hx hb dX11_yardRow_8 (by decide) ?_
  refine lv_iconst (v := 2) hx hb dX11_yardRow_9 (by decide) ?_
  refine cl_i (wr := [(xc0 cy xh xq), (xc1 cy xh xq), (xc2 cy xh xq), (xc3 cy xh xq)]) (va_runS (As := [.int 2, .int 0, .int 2]) (rest := []) ⟨hx, hb, hml, hown, hts⟩ (c_isWithin l D cy 2 0 2 _) (va_cwS 3 hts gX11_yardRow_X11_isWithin rfl rfl rfl (by decide +kernel) ⟨(Nat.le_of_ble_eq_true rfl), (Nat.le_of_ble_eq_true rfl)⟩) (pre_S hKX hP hD [] rfl (by decide) rfl) rfl rfl hl.1 rfl (lv_room (Nat.le_of_ble_eq_true rfl)) dX11_yardRow_10 ⟨(Nat.le_of_ble_eq_true rfl), (Nat.le_of_ble_eq_true rfl)⟩) hP hD hS hA [] [0, 1, 2, 3] rfl rfl (by decide) (by decide) (fun u2 H locs _ hP hD hS => ?_)
  have hP : va_P D vwCl [(xc0 cy xh xq), (xc1 cy xh xq), (xc2 cy xh xq), (xc3 cy xh xq)] H := hP
  have hD : va_D A [(xc0 cy xh xq), (xc1 cy xh xq), (xc2 cy xh xq), (xc3 cy xh xq)] := hD
  refine lv_cst 1 (by decide) ?_
  refine lv_if_ne (tgt := 18) hx hb dX11_yardRow_13 (by decide) (fun _ => ?_) (fun c9 => absurd c9 (by decide))
  refine lv_aload_n hx hb dX11_yardRow_18 rfl (lv_at hl 0 rfl) ?_
  refine va_get (D := D) (ci := 11) (v := .ref (xq 0)) (C := RX11) (T := TX11) (N := 18) hx hb hts iw_X11_yardRow_X11 hown hKX.1 hP 0 rfl rfl 0 (by decide) (hts (.fieldLink RX11 10 "TrainFerry" "shores" "[LTrainFerry$Shore;") (by decide +kernel)) (fun _ h9 => h9) rfl dX11_yardRow_19 ?_
  refine lv_iload_n hx hb dX11_yardRow_22 rfl (lv_at hl 1 rfl) ?_
  refine va_aldq hx hb hKX.1 hP 1 5 rfl rfl (vind (by decide)) dX11_yardRow_23 ?_
  refine lv_csv (.ref (xq 1)) rfl ?_
  refine va_get (D := D) (ci := 7) (v := .ref (xq 2)) (C := RX7) (T := TX7) (N := 3) hx hb hts iw_X11_yardRow_X7 hown hKX.1 hP 2 rfl rfl 0 (by decide) (hts (.fieldLink RX11 302 "TrainFerry$Shore" "rows" "[LTrainFerry$Row;") (by decide +kernel)) (fun _ h9 => h9) rfl dX11_yardRow_24 ?_
  refine lv_iload_n hx hb dX11_yardRow_27 rfl (lv_at hl 2 rfl) ?_
  refine va_aldq hx hb hKX.1 hP 3 4 rfl rfl (vind (by decide)) dX11_yardRow_28 ?_
  refine lv_csv (.ref (xq 7)) rfl ?_
  exact en_q (v' := (some (xq 7))) hx hb hr (Or.inl ⟨_, rfl⟩) hlocks rfl () rfl trivial (hP.sub [0, 1, 2, 3] rfl) (hD.sub [0, 1, 2, 3] (by decide) rfl) hS (Nat.le_of_ble_eq_true rfl) (Nat.le_of_ble_eq_true rfl) dX11_yardRow_29
set_option maxHeartbeats 4000000 in
set_option maxRecDepth 100000 in
theorem c_yardRow_10 (l : Launch) (D : va_G) (cy : Nat → ClassId) (xh : Nat) (xq : Nat → Nat) (sz : Nat) : Met l yX11_yardRow wsX11_yardRow ({ frames := 2, cells := 0, slots := 0, locals := 42 }) (wPre D cy [.ref xh, .int 1, .int 0] sz [(xc0 cy xh xq), (xc1 cy xh xq), (xc13 cy xh xq), (xc14 cy xh xq)]) (wQq D (fun _u : Unit => some (xq 14)) (fun _ : Unit => True) (fun _u : Unit => [(xc0 cy xh xq), (xc1 cy xh xq), (xc13 cy xh xq), (xc14 cy xh xq)]) (va_A [(xc0 cy xh xq), (xc1 cy xh xq), (xc13 cy xh xq), (xc14 cy xh xq)] sz)) 0 0 (va_A [(xc0 cy xh xq), (xc1 cy xh xq), (xc13 cy xh xq), (xc14 cy xh xq)] sz) := by
  refine met_go (y := yX11_yardRow) (ws := wsX11_yardRow) (av := [.ref xh, .int 1, .int 0]) (cc := cX11_yardRow) (maxL := 3) (ret := (some (.object "TrainFerry$Row"))) (Qc := fun A => wQq D (fun _u : Unit => some (xq 14)) (fun _ : Unit => True) (fun _u : Unit => [(xc0 cy xh xq), (xc1 cy xh xq), (xc13 cy xh xq), (xc14 cy xh xq)]) A) (by decide) rfl (Nat.le_of_ble_eq_true rfl) ?_
  intro p e s m below meth c ls A hx hb hr hml hown hts hlocks hname hKX hP hD hA hS hl
  have hown : s.vm.findClass RX11 = some m.cls := hown
  have hl : lv_has ls 3 [(0, .ref xh), (1, .int 1), (2, .int 0)] := hl
  refine lv_iload_n hx hb dX11_yardRow_0 rfl (lv_at hl 1 rfl) ?_
  refine cl_i (wr := [(xc0 cy xh xq), (xc1 cy xh xq), (xc13 cy xh xq), (xc14 cy xh xq)]) (va_runS (As := [.int 1]) (rest := []) ⟨hx, hb, hml, hown, hts⟩ (c_isShore l D cy 1 _) (va_cwS 1 hts gX11_yardRow_X11_isShore rfl rfl rfl (by decide +kernel) ⟨(Nat.le_of_ble_eq_true rfl), (Nat.le_of_ble_eq_true rfl)⟩) (pre_S hKX hP hD [] rfl (by decide) rfl) rfl rfl hl.1 rfl (lv_room (Nat.le_of_ble_eq_true rfl)) dX11_yardRow_1 ⟨(Nat.le_of_ble_eq_true rfl), (Nat.le_of_ble_eq_true rfl)⟩) hP hD hS hA [] [0, 1, 2, 3] rfl rfl (by decide) (by decide) (fun u1 H locs _ hP hD hS => ?_)
  have hP : va_P D vwCl [(xc0 cy xh xq), (xc1 cy xh xq), (xc13 cy xh xq), (xc14 cy xh xq)] H := hP
  have hD : va_D A [(xc0 cy xh xq), (xc1 cy xh xq), (xc13 cy xh xq), (xc14 cy xh xq)] := hD
  refine lv_cst 1 (by decide) ?_
  refine lv_if_eq (tgt := 16) hx hb dX11_yardRow_4 (by decide) (fun c9 => absurd c9 (by decide)) (fun _ => ?_)
  refine lv_iload_n hx hb dX11_yardRow_7 rfl (lv_at hl 2 rfl) ?_
  refine lv_iconst (v := 0) hx hb dX11_yardRow_8 (by decide) ?_
  refine lv_iconst (v := 2) hx hb dX11_yardRow_9 (by decide) ?_
  refine cl_i (wr := [(xc0 cy xh xq), (xc1 cy xh xq), (xc13 cy xh xq), (xc14 cy xh xq)]) (va_runS (As := [.int 0, .int 0, .int 2]) (rest := []) ⟨hx, hb, hml, hown, hts⟩ (c_isWithin l D cy 0 0 2 _) (va_cwS 3 hts gX11_yardRow_X11_isWithin rfl rfl rfl (by decide +kernel) ⟨(Nat.le_of_ble_eq_true rfl), (Nat.le_of_ble_eq_true rfl)⟩) (pre_S hKX hP hD [] rfl (by decide) rfl) rfl rfl hl.1 rfl (lv_room (Nat.le_of_ble_eq_true rfl)) dX11_yardRow_10 ⟨(Nat.le_of_ble_eq_true rfl), (Nat.le_of_ble_eq_true rfl)⟩) hP hD hS hA [] [0, 1, 2, 3] rfl rfl (by decide) (by decide) (fun u2 H locs _ hP hD hS => ?_)
  have hP : va_P D vwCl [(xc0 cy xh xq), (xc1 cy xh xq), (xc13 cy xh xq), (xc14 cy xh xq)] H := hP
  have hD : va_D A [(xc0 cy xh xq), (xc1 cy xh xq), (xc13 cy xh xq), (xc14 cy xh xq)] := hD
  refine lv_cst 1 (by decide) ?_
  refine lv_if_ne (tgt := 18) hx hb dX11_yardRow_13 (by decide) (fun _ => ?_) (fun c9 => absurd c9 (by decide))
  refine lv_aload_n hx hb dX11_yardRow_18 rfl (lv_at hl 0 rfl) ?_
  refine va_get (D := D) (ci := 11) (v := .ref (xq 0)) (C := RX11) (T := TX11) (N := 18) hx hb hts iw_X11_yardRow_X11 hown hKX.1 hP 0 rfl rfl 0 (by decide) (hts (.fieldLink RX11 10 "TrainFerry" "shores" "[LTrainFerry$Shore;") (by decide +kernel)) (fun _ h9 => h9) rfl dX11_yardRow_19 ?_
  refine lv_iload_n hx hb dX11_yardRow_22 rfl (lv_at hl 1 rfl) ?_
  refine va_aldq hx hb hKX.1 hP 1 5 rfl rfl (vind (by decide)) dX11_yardRow_23 ?_
  refine lv_csv (.ref (xq 12)) rfl ?_
  refine va_get (D := D) (ci := 7) (v := .ref (xq 13)) (C := RX7) (T := TX7) (N := 3) hx hb hts iw_X11_yardRow_X7 hown hKX.1 hP 2 rfl rfl 0 (by decide) (hts (.fieldLink RX11 302 "TrainFerry$Shore" "rows" "[LTrainFerry$Row;") (by decide +kernel)) (fun _ h9 => h9) rfl dX11_yardRow_24 ?_
  refine lv_iload_n hx hb dX11_yardRow_27 rfl (lv_at hl 2 rfl) ?_
  refine va_aldq hx hb hKX.1 hP 3 4 rfl rfl (vind (by decide)) dX11_yardRow_28 ?_
  refine lv_csv (.ref (xq 14)) rfl ?_
  exact en_q (v' := (some (xq 14))) hx hb hr (Or.inl ⟨_, rfl⟩) hlocks rfl () rfl trivial (hP.sub [0, 1, 2, 3] rfl) (hD.sub [0, 1, 2, 3] (by decide) rfl) hS (Nat.le_of_ble_eq_true rfl) (Nat.le_of_ble_eq_true rfl) dX11_yardRow_29
set_option maxHeartbeats 4000000 in
set_option maxRecDepth 100000 in
theorem c_yardRow_11 (l : Launch) (D : va_G) (cy : Nat → ClassId) (xh : Nat) (xq : Nat → Nat) (sz : Nat) : Met l yX11_yardRow wsX11_yardRow ({ frames := 2, cells := 0, slots := 0, locals := 42 }) (wPre D cy [.ref xh, .int 1, .int 1] sz [(xc0 cy xh xq), (xc1 cy xh xq), (xc13 cy xh xq), (xc14 cy xh xq)]) (wQq D (fun _u : Unit => some (xq 16)) (fun _ : Unit => True) (fun _u : Unit => [(xc0 cy xh xq), (xc1 cy xh xq), (xc13 cy xh xq), (xc14 cy xh xq)]) (va_A [(xc0 cy xh xq), (xc1 cy xh xq), (xc13 cy xh xq), (xc14 cy xh xq)] sz)) 0 0 (va_A [(xc0 cy xh xq), (xc1 cy xh xq), (xc13 cy xh xq), (xc14 cy xh xq)] sz) := by
  refine met_go (y := yX11_yardRow) (ws := wsX11_yardRow) (av := [.ref xh, .int 1, .int 1]) (cc := cX11_yardRow) (maxL := 3) (ret := (some (.object "TrainFerry$Row"))) (Qc := fun A => wQq D (fun _u : Unit => some (xq 16)) (fun _ : Unit => True) (fun _u : Unit => [(xc0 cy xh xq), (xc1 cy xh xq), (xc13 cy xh xq), (xc14 cy xh xq)]) A) (by decide) rfl (Nat.le_of_ble_eq_true rfl) ?_
  intro p e s m below meth c ls A hx hb hr hml hown hts hlocks hname hKX hP hD hA hS hl
  have hown : s.vm.findClass RX11 = some m.cls := hown
  have hl : lv_has ls 3 [(0, .ref xh), (1, .int 1), (2, .int 1)] := hl
  refine lv_iload_n hx hb dX11_yardRow_0 rfl (lv_at hl 1 rfl) ?_
  refine cl_i (wr := [(xc0 cy xh xq), (xc1 cy xh xq), (xc13 cy xh xq), (xc14 cy xh xq)]) (va_runS (As := [.int 1]) (rest := []) ⟨hx, hb, hml, hown, hts⟩ (c_isShore l D cy 1 _) (va_cwS 1 hts gX11_yardRow_X11_isShore rfl rfl rfl (by decide +kernel) ⟨(Nat.le_of_ble_eq_true rfl), (Nat.le_of_ble_eq_true rfl)⟩) (pre_S hKX hP hD [] rfl (by decide) rfl) rfl rfl hl.1 rfl (lv_room (Nat.le_of_ble_eq_true rfl)) dX11_yardRow_1 ⟨(Nat.le_of_ble_eq_true rfl), (Nat.le_of_ble_eq_true rfl)⟩) hP hD hS hA [] [0, 1, 2, 3] rfl rfl (by decide) (by decide) (fun u1 H locs _ hP hD hS => ?_)
  have hP : va_P D vwCl [(xc0 cy xh xq), (xc1 cy xh xq), (xc13 cy xh xq), (xc14 cy xh xq)] H := hP
  have hD : va_D A [(xc0 cy xh xq), (xc1 cy xh xq), (xc13 cy xh xq), (xc14 cy xh xq)] := hD
  refine lv_cst 1 (by decide) ?_
  refine lv_if_eq (tgt := 16) hx hb dX11_yardRow_4 (by decide) (fun c9 => absurd c9 (by decide)) (fun _ => ?_)
  refine lv_iload_n hx hb dX11_yardRow_7 rfl (lv_at hl 2 rfl) ?_
  refine lv_iconst (v := 0) hx hb dX11_yardRow_8 (by decide) ?_
  refine lv_iconst (v := 2) hx hb dX11_yardRow_9 (by decide) ?_
  refine cl_i (wr := [(xc0 cy xh xq), (xc1 cy xh xq), (xc13 cy xh xq), (xc14 cy xh xq)]) (va_runS (As := [.int 1, .int 0, .int 2]) (rest := []) ⟨hx, hb, hml, hown, hts⟩ (c_isWithin l D cy 1 0 2 _) (va_cwS 3 hts gX11_yardRow_X11_isWithin rfl rfl rfl (by decide +kernel) ⟨(Nat.le_of_ble_eq_true rfl), (Nat.le_of_ble_eq_true rfl)⟩) (pre_S hKX hP hD [] rfl (by decide) rfl) rfl rfl hl.1 rfl (lv_room (Nat.le_of_ble_eq_true rfl)) dX11_yardRow_10 ⟨(Nat.le_of_ble_eq_true rfl), (Nat.le_of_ble_eq_true rfl)⟩) hP hD hS hA [] [0, 1, 2, 3] rfl rfl (by decide) (by decide) (fun u2 H locs _ hP hD hS => ?_)
  have hP : va_P D vwCl [(xc0 cy xh xq), (xc1 cy xh xq), (xc13 cy xh xq), (xc14 cy xh xq)] H := hP
  have hD : va_D A [(xc0 cy xh xq), (xc1 cy xh xq), (xc13 cy xh xq), (xc14 cy xh xq)] := hD
  refine lv_cst 1 (by decide) ?_
  refine lv_if_ne (tgt := 18) hx hb dX11_yardRow_13 (by decide) (fun _ => ?_) (fun c9 => absurd c9 (by decide))
  refine lv_aload_n hx hb dX11_yardRow_18 rfl (lv_at hl 0 rfl) ?_
  refine va_get (D := D) (ci := 11) (v := .ref (xq 0)) (C := RX11) (T := TX11) (N := 18) hx hb hts iw_X11_yardRow_X11 hown hKX.1 hP 0 rfl rfl 0 (by decide) (hts (.fieldLink RX11 10 "TrainFerry" "shores" "[LTrainFerry$Shore;") (by decide +kernel)) (fun _ h9 => h9) rfl dX11_yardRow_19 ?_
  refine lv_iload_n hx hb dX11_yardRow_22 rfl (lv_at hl 1 rfl) ?_
  refine va_aldq hx hb hKX.1 hP 1 5 rfl rfl (vind (by decide)) dX11_yardRow_23 ?_
  refine lv_csv (.ref (xq 12)) rfl ?_
  refine va_get (D := D) (ci := 7) (v := .ref (xq 13)) (C := RX7) (T := TX7) (N := 3) hx hb hts iw_X11_yardRow_X7 hown hKX.1 hP 2 rfl rfl 0 (by decide) (hts (.fieldLink RX11 302 "TrainFerry$Shore" "rows" "[LTrainFerry$Row;") (by decide +kernel)) (fun _ h9 => h9) rfl dX11_yardRow_24 ?_
  refine lv_iload_n hx hb dX11_yardRow_27 rfl (lv_at hl 2 rfl) ?_
  refine va_aldq hx hb hKX.1 hP 3 4 rfl rfl (vind (by decide)) dX11_yardRow_28 ?_
  refine lv_csv (.ref (xq 16)) rfl ?_
  exact en_q (v' := (some (xq 16))) hx hb hr (Or.inl ⟨_, rfl⟩) hlocks rfl () rfl trivial (hP.sub [0, 1, 2, 3] rfl) (hD.sub [0, 1, 2, 3] (by decide) rfl) hS (Nat.le_of_ble_eq_true rfl) (Nat.le_of_ble_eq_true rfl) dX11_yardRow_29
set_option maxHeartbeats 4000000 in
set_option maxRecDepth 100000 in
theorem c_yardRow_12 (l : Launch) (D : va_G) (cy : Nat → ClassId) (xh : Nat) (xq : Nat → Nat) (sz : Nat) : Met l yX11_yardRow wsX11_yardRow ({ frames := 2, cells := 0, slots := 0, locals := 42 }) (wPre D cy [.ref xh, .int 1, .int 2] sz [(xc0 cy xh xq), (xc1 cy xh xq), (xc13 cy xh xq), (xc14 cy xh xq)]) (wQq D (fun _u : Unit => some (xq 18)) (fun _ : Unit => True) (fun _u : Unit => [(xc0 cy xh xq), (xc1 cy xh xq), (xc13 cy xh xq), (xc14 cy xh xq)]) (va_A [(xc0 cy xh xq), (xc1 cy xh xq), (xc13 cy xh xq), (xc14 cy xh xq)] sz)) 0 0 (va_A [(xc0 cy xh xq), (xc1 cy xh xq), (xc13 cy xh xq), (xc14 cy xh xq)] sz) := by
  refine met_go (y := yX11_yardRow) (ws := wsX11_yardRow) (av := [.ref xh, .int 1, .int 2]) (cc := cX11_yardRow) (maxL := 3) (ret := (some (.object "TrainFerry$Row"))) (Qc := fun A => wQq D (fun _u : Unit => some (xq 18)) (fun _ : Unit => True) (fun _u : Unit => [(xc0 cy xh xq), (xc1 cy xh xq), (xc13 cy xh xq), (xc14 cy xh xq)]) A) (by decide) rfl (Nat.le_of_ble_eq_true rfl) ?_
  intro p e s m below meth c ls A hx hb hr hml hown hts hlocks hname hKX hP hD hA hS hl
  have hown : s.vm.findClass RX11 = some m.cls := hown
  have hl : lv_has ls 3 [(0, .ref xh), (1, .int 1), (2, .int 2)] := hl
  refine lv_iload_n hx hb dX11_yardRow_0 rfl (lv_at hl 1 rfl) ?_
  refine cl_i (wr := [(xc0 cy xh xq), (xc1 cy xh xq), (xc13 cy xh xq), (xc14 cy xh xq)]) (va_runS (As := [.int 1]) (rest := []) ⟨hx, hb, hml, hown, hts⟩ (c_isShore l D cy 1 _) (va_cwS 1 hts gX11_yardRow_X11_isShore rfl rfl rfl (by decide +kernel) ⟨(Nat.le_of_ble_eq_true rfl), (Nat.le_of_ble_eq_true rfl)⟩) (pre_S hKX hP hD [] rfl (by decide) rfl) rfl rfl hl.1 rfl (lv_room (Nat.le_of_ble_eq_true rfl)) dX11_yardRow_1 ⟨(Nat.le_of_ble_eq_true rfl), (Nat.le_of_ble_eq_true rfl)⟩) hP hD hS hA [] [0, 1, 2, 3] rfl rfl (by decide) (by decide) (fun u1 H locs _ hP hD hS => ?_)
  have hP : va_P D vwCl [(xc0 cy xh xq), (xc1 cy xh xq), (xc13 cy xh xq), (xc14 cy xh xq)] H := hP
  have hD : va_D A [(xc0 cy xh xq), (xc1 cy xh xq), (xc13 cy xh xq), (xc14 cy xh xq)] := hD
  refine lv_cst 1 (by decide) ?_
  refine lv_if_eq (tgt := 16) hx hb dX11_yardRow_4 (by decide) (fun c9 => absurd c9 (by decide)) (fun _ => ?_)
  refine lv_iload_n hx hb dX11_yardRow_7 rfl (lv_at hl 2 rfl) ?_
  refine lv_iconst (v := 0) hx hb dX11_yardRow_8 (by decide) ?_
  refine lv_iconst (v := 2) hx hb dX11_yardRow_9 (by decide) ?_
  refine cl_i (wr := [(xc0 cy xh xq), (xc1 cy xh xq), (xc13 cy xh xq), (xc14 cy xh xq)]) (va_runS (As := [.int 2, .int 0, .int 2]) (rest := []) ⟨hx, hb, hml, hown, hts⟩ (c_isWithin l D cy 2 0 2 _) (va_cwS 3 hts gX11_yardRow_X11_isWithin rfl rfl rfl (by decide +kernel) ⟨(Nat.le_of_ble_eq_true rfl), (Nat.le_of_ble_eq_true rfl)⟩) (pre_S hKX hP hD [] rfl (by decide) rfl) rfl rfl hl.1 rfl (lv_room (Nat.le_of_ble_eq_true rfl)) dX11_yardRow_10 ⟨(Nat.le_of_ble_eq_true rfl), (Nat.le_of_ble_eq_true rfl)⟩) hP hD hS hA [] [0, 1, 2, 3] rfl rfl (by decide) (by decide) (fun u2 H locs _ hP hD hS => ?_)
  have hP : va_P D vwCl [(xc0 cy xh xq), (xc1 cy xh xq), (xc13 cy xh xq), (xc14 cy xh xq)] H := hP
  have hD : va_D A [(xc0 cy xh xq), (xc1 cy xh xq), (xc13 cy xh xq), (xc14 cy xh xq)] := hD
  refine lv_cst 1 (by decide) ?_
  refine lv_if_ne (tgt := 18) hx hb dX11_yardRow_13 (by decide) (fun _ => ?_) (fun c9 => absurd c9 (by decide))
  refine lv_aload_n hx hb dX11_yardRow_18 rfl (lv_at hl 0 rfl) ?_
  refine va_get (D := D) (ci := 11) (v := .ref (xq 0)) (C := RX11) (T := TX11) (N := 18) hx hb hts iw_X11_yardRow_X11 hown hKX.1 hP 0 rfl rfl 0 (by decide) (hts (.fieldLink RX11 10 "TrainFerry" "shores" "[LTrainFerry$Shore;") (by decide +kernel)) (fun _ h9 => h9) rfl dX11_yardRow_19 ?_
  refine lv_iload_n hx hb dX11_yardRow_22 rfl (lv_at hl 1 rfl) ?_
  refine va_aldq hx hb hKX.1 hP 1 5 rfl rfl (vind (by decide)) dX11_yardRow_23 ?_
  refine lv_csv (.ref (xq 12)) rfl ?_
  refine va_get (D := D) (ci := 7) (v := .ref (xq 13)) (C := RX7) (T := TX7) (N := 3) hx hb hts iw_X11_yardRow_X7 hown hKX.1 hP 2 rfl rfl 0 (by decide) (hts (.fieldLink RX11 302 "TrainFerry$Shore" "rows" "[LTrainFerry$Row;") (by decide +kernel)) (fun _ h9 => h9) rfl dX11_yardRow_24 ?_
  refine lv_iload_n hx hb dX11_yardRow_27 rfl (lv_at hl 2 rfl) ?_
  refine va_aldq hx hb hKX.1 hP 3 4 rfl rfl (vind (by decide)) dX11_yardRow_28 ?_
  refine lv_csv (.ref (xq 18)) rfl ?_
  exact en_q (v' := (some (xq 18))) hx hb hr (Or.inl ⟨_, rfl⟩) hlocks rfl () rfl trivial (hP.sub [0, 1, 2, 3] rfl) (hD.sub [0, 1, 2, 3] (by decide) rfl) hS (Nat.le_of_ble_eq_true rfl) (Nat.le_of_ble_eq_true rfl) dX11_yardRow_29
set_option maxHeartbeats 4000000 in
set_option maxRecDepth 100000 in
theorem c_yardRow_s (l : Launch) (D : va_G) (cy : Nat → ClassId) (xh : Nat) (xq : Nat → Nat) (xs : Int32) (xt : Int32) (hs : (wi xs 0 1) = 0) (sz : Nat) : Met l yX11_yardRow wsX11_yardRow ({ frames := 2, cells := 0, slots := 0, locals := 42 }) (wPre D cy [.ref xh, .int xs, .int xt] sz []) (wQq D (fun _u : Unit => none) (fun _ : Unit => True) (fun _u : Unit => []) (va_A [] sz)) 0 0 (va_A [] sz) := by
  refine met_go (y := yX11_yardRow) (ws := wsX11_yardRow) (av := [.ref xh, .int xs, .int xt]) (cc := cX11_yardRow) (maxL := 3) (ret := (some (.object "TrainFerry$Row"))) (Qc := fun A => wQq D (fun _u : Unit => none) (fun _ : Unit => True) (fun _u : Unit => []) A) (by decide) rfl (Nat.le_of_ble_eq_true rfl) ?_
  intro p e s m below meth c ls A hx hb hr hml hown hts hlocks hname hKX hP hD hA hS hl
  have hown : s.vm.findClass RX11 = some m.cls := hown
  have hl : lv_has ls 3 [(0, .ref xh), (1, .int xs), (2, .int xt)] := hl
  refine lv_iload_n hx hb dX11_yardRow_0 rfl (lv_at hl 1 rfl) ?_
  refine cl_i (wr := []) (va_runS (As := [.int xs]) (rest := []) ⟨hx, hb, hml, hown, hts⟩ (c_isShore l D cy xs _) (va_cwS 1 hts gX11_yardRow_X11_isShore rfl rfl rfl (by decide +kernel) ⟨(Nat.le_of_ble_eq_true rfl), (Nat.le_of_ble_eq_true rfl)⟩) (pre_S hKX hP hD [] rfl (by decide) rfl) rfl rfl hl.1 rfl (lv_room (Nat.le_of_ble_eq_true rfl)) dX11_yardRow_1 ⟨(Nat.le_of_ble_eq_true rfl), (Nat.le_of_ble_eq_true rfl)⟩) hP hD hS hA [] [] rfl rfl (by decide) (by decide) (fun u1 H locs _ hP hD hS => ?_)
  have hP : va_P D vwCl [] H := hP
  have hD : va_D A [] := hD
  refine lv_if_eq (tgt := 16) hx hb dX11_yardRow_4 (by decide) (fun _ => ?_) (fun c9 => absurd hs c9)
  refine lv_null hx hb dX11_yardRow_16 ?_
  exact en_q (v' := none) hx hb hr (Or.inl ⟨_, rfl⟩) hlocks rfl () rfl trivial (hP.sub [] rfl) (hD.sub [] (by decide) rfl) hS (Nat.le_of_ble_eq_true rfl) (Nat.le_of_ble_eq_true rfl) dX11_yardRow_17
set_option maxHeartbeats 4000000 in
set_option maxRecDepth 100000 in
theorem c_yardRow_t (l : Launch) (D : va_G) (cy : Nat → ClassId) (xh : Nat) (xq : Nat → Nat) (xs : Int32) (xt : Int32) (ht : (wi xt 0 2) = 0) (sz : Nat) : Met l yX11_yardRow wsX11_yardRow ({ frames := 2, cells := 0, slots := 0, locals := 42 }) (wPre D cy [.ref xh, .int xs, .int xt] sz []) (wQq D (fun _u : Unit => none) (fun _ : Unit => True) (fun _u : Unit => []) (va_A [] sz)) 0 0 (va_A [] sz) := by
  refine met_go (y := yX11_yardRow) (ws := wsX11_yardRow) (av := [.ref xh, .int xs, .int xt]) (cc := cX11_yardRow) (maxL := 3) (ret := (some (.object "TrainFerry$Row"))) (Qc := fun A => wQq D (fun _u : Unit => none) (fun _ : Unit => True) (fun _u : Unit => []) A) (by decide) rfl (Nat.le_of_ble_eq_true rfl) ?_
  intro p e s m below meth c ls A hx hb hr hml hown hts hlocks hname hKX hP hD hA hS hl
  have hown : s.vm.findClass RX11 = some m.cls := hown
  have hl : lv_has ls 3 [(0, .ref xh), (1, .int xs), (2, .int xt)] := hl
  refine lv_iload_n hx hb dX11_yardRow_0 rfl (lv_at hl 1 rfl) ?_
  refine cl_i (wr := []) (va_runS (As := [.int xs]) (rest := []) ⟨hx, hb, hml, hown, hts⟩ (c_isShore l D cy xs _) (va_cwS 1 hts gX11_yardRow_X11_isShore rfl rfl rfl (by decide +kernel) ⟨(Nat.le_of_ble_eq_true rfl), (Nat.le_of_ble_eq_true rfl)⟩) (pre_S hKX hP hD [] rfl (by decide) rfl) rfl rfl hl.1 rfl (lv_room (Nat.le_of_ble_eq_true rfl)) dX11_yardRow_1 ⟨(Nat.le_of_ble_eq_true rfl), (Nat.le_of_ble_eq_true rfl)⟩) hP hD hS hA [] [] rfl rfl (by decide) (by decide) (fun u1 H locs _ hP hD hS => ?_)
  have hP : va_P D vwCl [] H := hP
  have hD : va_D A [] := hD
  refine lv_if_eq (tgt := 16) hx hb dX11_yardRow_4 (by decide) (fun c2 => ?_) (fun c2 => ?_)
  · refine lv_null hx hb dX11_yardRow_16 ?_
    exact en_q (v' := none) hx hb hr (Or.inl ⟨_, rfl⟩) hlocks rfl () rfl trivial (hP.sub [] rfl) (hD.sub [] (by decide) rfl) hS (Nat.le_of_ble_eq_true rfl) (Nat.le_of_ble_eq_true rfl) dX11_yardRow_17
  · refine lv_iload_n hx hb dX11_yardRow_7 rfl (lv_at hl 2 rfl) ?_
    refine lv_iconst (v := 0) hx hb dX11_yardRow_8 (by decide) ?_
    refine lv_iconst (v := 2) hx hb dX11_yardRow_9 (by decide) ?_
    refine cl_i (wr := []) (va_runS (As := [.int xt, .int 0, .int 2]) (rest := []) ⟨hx, hb, hml, hown, hts⟩ (c_isWithin l D cy xt 0 2 _) (va_cwS 3 hts gX11_yardRow_X11_isWithin rfl rfl rfl (by decide +kernel) ⟨(Nat.le_of_ble_eq_true rfl), (Nat.le_of_ble_eq_true rfl)⟩) (pre_S hKX hP hD [] rfl (by decide) rfl) rfl rfl hl.1 rfl (lv_room (Nat.le_of_ble_eq_true rfl)) dX11_yardRow_10 ⟨(Nat.le_of_ble_eq_true rfl), (Nat.le_of_ble_eq_true rfl)⟩) hP hD hS hA [] [] rfl rfl (by decide) (by decide) (fun u3 H locs _ hP hD hS => ?_)
    have hP : va_P D vwCl [] H := hP
    have hD : va_D A [] := hD
    refine lv_if_ne (tgt := 18) hx hb dX11_yardRow_13 (by decide) (fun c9 => absurd ht c9) (fun _ => ?_)
    refine lv_null hx hb dX11_yardRow_16 ?_
    exact en_q (v' := none) hx hb hr (Or.inl ⟨_, rfl⟩) hlocks rfl () rfl trivial (hP.sub [] rfl) (hD.sub [] (by decide) rfl) hS (Nat.le_of_ble_eq_true rfl) (Nat.le_of_ble_eq_true rfl) dX11_yardRow_17
