theorem iw_X6_hasValueIn_X6 : ∀ w ∈ wsX60, w ∈ wsX6_hasValueIn := by decide +kernel
set_option maxHeartbeats 4000000 in
set_option maxRecDepth 100000 in
theorem c_hasValueIn (l : Launch) (D : va_G) (cy : Nat → ClassId) (h : Nat) (f : Nat) (g : Nat) (t : Int32) (sz : Nat) : Met l yX6_hasValueIn wsX6_hasValueIn ({ frames := 0, cells := 0, slots := 0, locals := 0 }) (wPre D cy [.ref h, .int t] sz [(h, .inr (6, [.ref f, .ref g, .int 0, .int (-1)]))]) (wQi D 0 (fun _ : Unit => True) (fun _u : Unit => [(h, .inr (6, [.ref f, .ref g, .int 0, .int (-1)]))]) (va_A [(h, .inr (6, [.ref f, .ref g, .int 0, .int (-1)]))] sz)) 0 0 (va_A [(h, .inr (6, [.ref f, .ref g, .int 0, .int (-1)]))] sz) := by
  refine met_go (y := yX6_hasValueIn) (ws := wsX6_hasValueIn) (av := [.ref h, .int t]) (cc := cX6_hasValueIn) (maxL := 2) (ret := (some .boolean)) (Qc := fun A => wQi D 0 (fun _ : Unit => True) (fun _u : Unit => [(h, .inr (6, [.ref f, .ref g, .int 0, .int (-1)]))]) A) (by decide) rfl (Nat.le_of_ble_eq_true rfl) ?_
  intro p e s m below meth c ls A hx hb hr hml hown hts hlocks hname hKX hP hD hA hS hl
  have hown : s.vm.findClass RX6 = some m.cls := hown
  have hl : lv_has ls 2 [(0, .ref h), (1, .int t)] := hl
  refine lv_aload_n hx hb dX6_hasValueIn_0 rfl (lv_at hl 0 rfl) ?_
  refine va_get (D := D) (ci := 6) (v := .int (-1)) (C := RX6) (T := TX6) (N := 4) hx hb hts iw_X6_hasValueIn_X6 hown hKX.1 hP 0 rfl rfl 3 (by decide) (hts (.fieldLink RX6 15 "TrainFerry$Schedule" "placeInForce" "I") (by decide +kernel)) (fun _ h9 => h9) rfl dX6_hasValueIn_1 ?_
  refine lv_iconst (v := 1) hx hb dX6_hasValueIn_4 (by decide) ?_
  refine lv_iadd hx hb dX6_hasValueIn_5 ?_
  refine lv_cst 0 (by decide) ?_
  refine lv_aload_n hx hb dX6_hasValueIn_6 rfl (lv_at hl 0 rfl) ?_
  refine va_get (D := D) (ci := 6) (v := .int 0) (C := RX6) (T := TX6) (N := 4) hx hb hts iw_X6_hasValueIn_X6 hown hKX.1 hP 0 rfl rfl 2 (by decide) (hts (.fieldLink RX6 9 "TrainFerry$Schedule" "size" "I") (by decide +kernel)) (fun _ h9 => h9) rfl dX6_hasValueIn_7 ?_
  refine lv_icmp_ge (tgt := 41) hx hb dX6_hasValueIn_10 (by decide) (fun _ => ?_) (fun c9 => absurd (by decide) c9)
  refine lv_aload_n hx hb dX6_hasValueIn_41 rfl (lv_at hl 0 rfl) ?_
  refine va_get (D := D) (ci := 6) (v := .int (-1)) (C := RX6) (T := TX6) (N := 4) hx hb hts iw_X6_hasValueIn_X6 hown hKX.1 hP 0 rfl rfl 3 (by decide) (hts (.fieldLink RX6 15 "TrainFerry$Schedule" "placeInForce" "I") (by decide +kernel)) (fun _ h9 => h9) rfl dX6_hasValueIn_42 ?_
  refine lv_if_lt (tgt := 52) hx hb dX6_hasValueIn_45 (by decide) (fun _ => ?_) (fun c9 => absurd (by decide) c9)
  refine lv_iconst (v := 0) hx hb dX6_hasValueIn_52 (by decide) ?_
  exact en_z hx hb hr hlocks rfl () rfl trivial (hP.sub [0] rfl) (hD.sub [0] (by decide) rfl) hS (Nat.le_of_ble_eq_true rfl) (Nat.le_of_ble_eq_true rfl) dX6_hasValueIn_53
set_option maxHeartbeats 4000000 in
set_option maxRecDepth 100000 in
theorem c_valueIn (l : Launch) (D : va_G) (cy : Nat → ClassId) (h : Nat) (f : Nat) (g : Nat) (t : Int32) (d : Int32) (sz : Nat) : Met l yX6_valueIn wsX6_valueIn ({ frames := 1, cells := 0, slots := 0, locals := 21 }) (wPre D cy [.ref h, .int t, .int d] sz [(h, .inr (6, [.ref f, .ref g, .int 0, .int (-1)]))]) (wQi D d (fun _ : Unit => True) (fun _u : Unit => [(h, .inr (6, [.ref f, .ref g, .int 0, .int (-1)]))]) (va_A [(h, .inr (6, [.ref f, .ref g, .int 0, .int (-1)]))] sz)) 0 0 (va_A [(h, .inr (6, [.ref f, .ref g, .int 0, .int (-1)]))] sz) := by
  refine met_go (y := yX6_valueIn) (ws := wsX6_valueIn) (av := [.ref h, .int t, .int d]) (cc := cX6_valueIn) (maxL := 3) (ret := (some .int)) (Qc := fun A => wQi D d (fun _ : Unit => True) (fun _u : Unit => [(h, .inr (6, [.ref f, .ref g, .int 0, .int (-1)]))]) A) (by decide) rfl (Nat.le_of_ble_eq_true rfl) ?_
  intro p e s m below meth c ls A hx hb hr hml hown hts hlocks hname hKX hP hD hA hS hl
  have hown : s.vm.findClass RX6 = some m.cls := hown
  have hl : lv_has ls 3 [(0, .ref h), (1, .int t), (2, .int d)] := hl
  refine lv_aload_n hx hb dX6_valueIn_0 rfl (lv_at hl 0 rfl) ?_
  refine lv_iload_n hx hb dX6_valueIn_1 rfl (lv_at hl 1 rfl) ?_
  refine cl_i (wr := []) (va_runV (As := [.int t]) (rest := []) ⟨hx, hb, hml, hown, hts⟩ (c_hasValueIn l D cy h f g t _) (cwV 1 hts gX6_valueIn_X6_hasValueIn rfl rfl rfl (by decide +kernel) ⟨(Nat.le_of_ble_eq_true rfl), (Nat.le_of_ble_eq_true rfl)⟩) (pre_V hKX hP hD (ci := 6) (q0 := 0) rfl rfl [0] rfl (by decide) rfl) rfl rfl hl.1 rfl (lv_room (Nat.le_of_ble_eq_true rfl)) dX6_valueIn_2 ⟨(Nat.le_of_ble_eq_true rfl), (Nat.le_of_ble_eq_true rfl)⟩) hP hD hS hA [0] [] rfl rfl (by decide) (by decide) (fun u1 H locs _ hP hD hS => ?_)
  have hP : va_P D vwCl [(h, .inr (6, [.ref f, .ref g, .int 0, .int (-1)]))] H := hP
  have hD : va_D A [(h, .inr (6, [.ref f, .ref g, .int 0, .int (-1)]))] := hD
  refine lv_if_eq (tgt := 20) hx hb dX6_valueIn_5 (by decide) (fun _ => ?_) (fun c9 => absurd (by decide) c9)
  refine lv_iload_n hx hb dX6_valueIn_20 rfl (lv_at hl 2 rfl) ?_
  exact en_i hx hb hr hlocks () rfl trivial (hP.sub [0] rfl) (hD.sub [0] (by decide) rfl) hS (Nat.le_of_ble_eq_true rfl) (Nat.le_of_ble_eq_true rfl) dX6_valueIn_21
theorem iw_X6_tell_X6 : ∀ w ∈ wsX60, w ∈ wsX6_tell := by decide +kernel
set_option maxHeartbeats 4000000 in
set_option maxRecDepth 100000 in
theorem c_tell_200 (l : Launch) (D : va_G) (cy : Nat → ClassId) (h : Nat) (f : Nat) (g : Nat) (t : Int32) (v : Int32) (sz : Nat) : Met l yX6_tell wsX6_tell ({ frames := 0, cells := 0, slots := 0, locals := 0 }) (wPre D cy [.ref h, .int t, .int v] sz [(h, .inr (6, [.ref f, .ref g, .int 0, .int (-1)])), (f, .inl (cy 0, 200, .inl (fun _ => 0))), (g, .inl (cy 0, 200, .inl (fun _ => 0)))]) (wQv D (fun _ : Unit => True) (fun _u : Unit => []) (va_A [(h, .inr (6, [.ref f, .ref g, .int 0, .int (-1)])), (f, .inl (cy 0, 200, .inl (fun _ => 0))), (g, .inl (cy 0, 200, .inl (fun _ => 0)))] sz)) 0 0 (va_A [(h, .inr (6, [.ref f, .ref g, .int 0, .int (-1)])), (f, .inl (cy 0, 200, .inl (fun _ => 0))), (g, .inl (cy 0, 200, .inl (fun _ => 0)))] sz) := by
  refine met_go (y := yX6_tell) (ws := wsX6_tell) (av := [.ref h, .int t, .int v]) (cc := cX6_tell) (maxL := 4) (ret := none) (Qc := fun A => wQv D (fun _ : Unit => True) (fun _u : Unit => []) A) (by decide) rfl (Nat.le_of_ble_eq_true rfl) ?_
  intro p e s m below meth c ls A hx hb hr hml hown hts hlocks hname hKX hP hD hA hS hl
  have hown : s.vm.findClass RX6 = some m.cls := hown
  have hl : lv_has ls 4 [(0, .ref h), (1, .int t), (2, .int v)] := hl
  refine lv_aload_n hx hb dX6_tell_0 rfl (lv_at hl 0 rfl) ?_
  refine va_get (D := D) (ci := 6) (v := .int 0) (C := RX6) (T := TX6) (N := 4) hx hb hts iw_X6_tell_X6 hown hKX.1 hP 0 rfl rfl 2 (by decide) (hts (.fieldLink RX6 9 "TrainFerry$Schedule" "size" "I") (by decide +kernel)) (fun _ h9 => h9) rfl dX6_tell_1 ?_
  refine lv_aload_n hx hb dX6_tell_4 rfl (lv_at hl 0 rfl) ?_
  refine va_get (D := D) (ci := 6) (v := .ref f) (C := RX6) (T := TX6) (N := 4) hx hb hts iw_X6_tell_X6 hown hKX.1 hP 0 rfl rfl 0 (by decide) (hts (.fieldLink RX6 24 "TrainFerry$Schedule" "fromTicks" "[I") (by decide +kernel)) (fun _ h9 => h9) rfl dX6_tell_5 ?_
  refine va_alen (v := 200) hx hb hKX.1 hP 1 0 rfl rfl (by decide) dX6_tell_8 ?_
  refine lv_icmp_lt (tgt := 13) hx hb dX6_tell_9 (by decide) (fun _ => ?_) (fun c9 => absurd (by decide) c9)
  refine lv_aload_n hx hb dX6_tell_13 rfl (lv_at hl 0 rfl) ?_
  refine va_get (D := D) (ci := 6) (v := .int 0) (C := RX6) (T := TX6) (N := 4) hx hb hts iw_X6_tell_X6 hown hKX.1 hP 0 rfl rfl 2 (by decide) (hts (.fieldLink RX6 9 "TrainFerry$Schedule" "size" "I") (by decide +kernel)) (fun _ h9 => h9) rfl dX6_tell_14 ?_
  refine lv_istore_n (lv' := [(3, .int 0), (0, .ref h), (1, .int t), (2, .int v)]) hx hb dX6_tell_17 rfl hl (by decide) rfl (fun ls hl => ?_)
  refine lv_iload_n hx hb dX6_tell_18 rfl (lv_at hl 0 rfl) ?_
  refine lv_if_le (tgt := 68) hx hb dX6_tell_19 (by decide) (fun _ => ?_) (fun c9 => absurd (by decide) c9)
  refine lv_aload_n hx hb dX6_tell_68 rfl (lv_at hl 1 rfl) ?_
  refine va_get (D := D) (ci := 6) (v := .ref f) (C := RX6) (T := TX6) (N := 4) hx hb hts iw_X6_tell_X6 hown hKX.1 hP 0 rfl rfl 0 (by decide) (hts (.fieldLink RX6 24 "TrainFerry$Schedule" "fromTicks" "[I") (by decide +kernel)) (fun _ h9 => h9) rfl dX6_tell_69 ?_
  refine lv_iload_n hx hb dX6_tell_72 rfl (lv_at hl 0 rfl) ?_
  refine lv_iload_n hx hb dX6_tell_73 rfl (lv_at hl 2 rfl) ?_
  refine va_iast hx hb hKX.1 hP hD hS 1 0 rfl rfl (vind (by decide)) dX6_tell_74 (fun H locs hP hD hS => ?_)
  have hP : va_P D vwCl [(h, .inr (6, [.ref f, .ref g, .int 0, .int (-1)])), (f, .inl (cy 0, 200, .inl (upd (fun _ => 0) (Int32.toNatClampNeg 0) t))), (g, .inl (cy 0, 200, .inl (fun _ => 0)))] H := hP
  have hD : va_D A [(h, .inr (6, [.ref f, .ref g, .int 0, .int (-1)])), (f, .inl (cy 0, 200, .inl (upd (fun _ => 0) (Int32.toNatClampNeg 0) t))), (g, .inl (cy 0, 200, .inl (fun _ => 0)))] := hD
  generalize upd (fun _ => 0) (Int32.toNatClampNeg 0) t = g1 at hP hD
  refine lv_aload_n hx hb dX6_tell_75 rfl (lv_at hl 1 rfl) ?_
  refine va_get (D := D) (ci := 6) (v := .ref g) (C := RX6) (T := TX6) (N := 4) hx hb hts iw_X6_tell_X6 hown hKX.1 hP 0 rfl rfl 1 (by decide) (hts (.fieldLink RX6 28 "TrainFerry$Schedule" "values" "[I") (by decide +kernel)) (fun _ h9 => h9) rfl dX6_tell_76 ?_
  refine lv_iload_n hx hb dX6_tell_79 rfl (lv_at hl 0 rfl) ?_
  refine lv_iload_n hx hb dX6_tell_80 rfl (lv_at hl 3 rfl) ?_
  refine va_iast hx hb hKX.1 hP hD hS 2 0 rfl rfl (vind (by decide)) dX6_tell_81 (fun H locs hP hD hS => ?_)
  have hP : va_P D vwCl [(h, .inr (6, [.ref f, .ref g, .int 0, .int (-1)])), (f, .inl (cy 0, 200, .inl g1)), (g, .inl (cy 0, 200, .inl (upd (fun _ => 0) (Int32.toNatClampNeg 0) v)))] H := hP
  have hD : va_D A [(h, .inr (6, [.ref f, .ref g, .int 0, .int (-1)])), (f, .inl (cy 0, 200, .inl g1)), (g, .inl (cy 0, 200, .inl (upd (fun _ => 0) (Int32.toNatClampNeg 0) v)))] := hD
  generalize upd (fun _ => 0) (Int32.toNatClampNeg 0) v = g2 at hP hD
  refine lv_aload_n hx hb dX6_tell_82 rfl (lv_at hl 1 rfl) ?_
  refine lv_dup hx hb dX6_tell_83 rfl ?_
  refine va_get (D := D) (ci := 6) (v := .int 0) (C := RX6) (T := TX6) (N := 4) hx hb hts iw_X6_tell_X6 hown hKX.1 hP 0 rfl rfl 2 (by decide) (hts (.fieldLink RX6 9 "TrainFerry$Schedule" "size" "I") (by decide +kernel)) (fun _ h9 => h9) rfl dX6_tell_84 ?_
  refine lv_iconst (v := 1) hx hb dX6_tell_87 (by decide) ?_
  refine lv_iadd hx hb dX6_tell_88 ?_
  refine lv_cst 1 (by decide) ?_
  refine va_put (D := D) (ci := 6) (v := .int 1) (ty := .int) (C := RX6) (T := TX6) (N := 4) hx hb hts iw_X6_tell_X6 tyX6 tyX6_ok nmX6 hown hKX.1 hP hD hS 0 rfl rfl 2 (by decide) (hts (.fieldLink RX6 9 "TrainFerry$Schedule" "size" "I") (by decide +kernel)) (fun _ h9 => h9) rfl (by decide +kernel) rfl rfl (Nat.le_of_ble_eq_true rfl) dX6_tell_89 (fun H locs hP hD hS => ?_)
  have hP : va_P D vwCl [(h, .inr (6, [.ref f, .ref g, .int 1, .int (-1)])), (f, .inl (cy 0, 200, .inl g1)), (g, .inl (cy 0, 200, .inl g2))] H := hP
  have hD : va_D A [(h, .inr (6, [.ref f, .ref g, .int 1, .int (-1)])), (f, .inl (cy 0, 200, .inl g1)), (g, .inl (cy 0, 200, .inl g2))] := hD
  exact en_v hx hb hr hlocks () trivial (hP.sub [] rfl) (hD.sub [] (by decide) rfl) hS (Nat.le_of_ble_eq_true rfl) (Nat.le_of_ble_eq_true rfl) dX6_tell_92
set_option maxHeartbeats 4000000 in
set_option maxRecDepth 100000 in
theorem c_tell_20 (l : Launch) (D : va_G) (cy : Nat → ClassId) (h : Nat) (f : Nat) (g : Nat) (t : Int32) (v : Int32) (sz : Nat) : Met l yX6_tell wsX6_tell ({ frames := 0, cells := 0, slots := 0, locals := 0 }) (wPre D cy [.ref h, .int t, .int v] sz [(h, .inr (6, [.ref f, .ref g, .int 0, .int (-1)])), (f, .inl (cy 0, 20, .inl (fun _ => 0))), (g, .inl (cy 0, 20, .inl (fun _ => 0)))]) (wQv D (fun _ : Unit => True) (fun _u : Unit => []) (va_A [(h, .inr (6, [.ref f, .ref g, .int 0, .int (-1)])), (f, .inl (cy 0, 20, .inl (fun _ => 0))), (g, .inl (cy 0, 20, .inl (fun _ => 0)))] sz)) 0 0 (va_A [(h, .inr (6, [.ref f, .ref g, .int 0, .int (-1)])), (f, .inl (cy 0, 20, .inl (fun _ => 0))), (g, .inl (cy 0, 20, .inl (fun _ => 0)))] sz) := by
  refine met_go (y := yX6_tell) (ws := wsX6_tell) (av := [.ref h, .int t, .int v]) (cc := cX6_tell) (maxL := 4) (ret := none) (Qc := fun A => wQv D (fun _ : Unit => True) (fun _u : Unit => []) A) (by decide) rfl (Nat.le_of_ble_eq_true rfl) ?_
  intro p e s m below meth c ls A hx hb hr hml hown hts hlocks hname hKX hP hD hA hS hl
  have hown : s.vm.findClass RX6 = some m.cls := hown
  have hl : lv_has ls 4 [(0, .ref h), (1, .int t), (2, .int v)] := hl
  refine lv_aload_n hx hb dX6_tell_0 rfl (lv_at hl 0 rfl) ?_
  refine va_get (D := D) (ci := 6) (v := .int 0) (C := RX6) (T := TX6) (N := 4) hx hb hts iw_X6_tell_X6 hown hKX.1 hP 0 rfl rfl 2 (by decide) (hts (.fieldLink RX6 9 "TrainFerry$Schedule" "size" "I") (by decide +kernel)) (fun _ h9 => h9) rfl dX6_tell_1 ?_
  refine lv_aload_n hx hb dX6_tell_4 rfl (lv_at hl 0 rfl) ?_
  refine va_get (D := D) (ci := 6) (v := .ref f) (C := RX6) (T := TX6) (N := 4) hx hb hts iw_X6_tell_X6 hown hKX.1 hP 0 rfl rfl 0 (by decide) (hts (.fieldLink RX6 24 "TrainFerry$Schedule" "fromTicks" "[I") (by decide +kernel)) (fun _ h9 => h9) rfl dX6_tell_5 ?_
  refine va_alen (v := 20) hx hb hKX.1 hP 1 0 rfl rfl (by decide) dX6_tell_8 ?_
  refine lv_icmp_lt (tgt := 13) hx hb dX6_tell_9 (by decide) (fun _ => ?_) (fun c9 => absurd (by decide) c9)
  refine lv_aload_n hx hb dX6_tell_13 rfl (lv_at hl 0 rfl) ?_
  refine va_get (D := D) (ci := 6) (v := .int 0) (C := RX6) (T := TX6) (N := 4) hx hb hts iw_X6_tell_X6 hown hKX.1 hP 0 rfl rfl 2 (by decide) (hts (.fieldLink RX6 9 "TrainFerry$Schedule" "size" "I") (by decide +kernel)) (fun _ h9 => h9) rfl dX6_tell_14 ?_
  refine lv_istore_n (lv' := [(3, .int 0), (0, .ref h), (1, .int t), (2, .int v)]) hx hb dX6_tell_17 rfl hl (by decide) rfl (fun ls hl => ?_)
  refine lv_iload_n hx hb dX6_tell_18 rfl (lv_at hl 0 rfl) ?_
  refine lv_if_le (tgt := 68) hx hb dX6_tell_19 (by decide) (fun _ => ?_) (fun c9 => absurd (by decide) c9)
  refine lv_aload_n hx hb dX6_tell_68 rfl (lv_at hl 1 rfl) ?_
  refine va_get (D := D) (ci := 6) (v := .ref f) (C := RX6) (T := TX6) (N := 4) hx hb hts iw_X6_tell_X6 hown hKX.1 hP 0 rfl rfl 0 (by decide) (hts (.fieldLink RX6 24 "TrainFerry$Schedule" "fromTicks" "[I") (by decide +kernel)) (fun _ h9 => h9) rfl dX6_tell_69 ?_
  refine lv_iload_n hx hb dX6_tell_72 rfl (lv_at hl 0 rfl) ?_
  refine lv_iload_n hx hb dX6_tell_73 rfl (lv_at hl 2 rfl) ?_
  refine va_iast hx hb hKX.1 hP hD hS 1 0 rfl rfl (vind (by decide)) dX6_tell_74 (fun H locs hP hD hS => ?_)
  have hP : va_P D vwCl [(h, .inr (6, [.ref f, .ref g, .int 0, .int (-1)])), (f, .inl (cy 0, 20, .inl (upd (fun _ => 0) (Int32.toNatClampNeg 0) t))), (g, .inl (cy 0, 20, .inl (fun _ => 0)))] H := hP
  have hD : va_D A [(h, .inr (6, [.ref f, .ref g, .int 0, .int (-1)])), (f, .inl (cy 0, 20, .inl (upd (fun _ => 0) (Int32.toNatClampNeg 0) t))), (g, .inl (cy 0, 20, .inl (fun _ => 0)))] := hD
  generalize upd (fun _ => 0) (Int32.toNatClampNeg 0) t = g1 at hP hD
  refine lv_aload_n hx hb dX6_tell_75 rfl (lv_at hl 1 rfl) ?_
  refine va_get (D := D) (ci := 6) (v := .ref g) (C := RX6) (T := TX6) (N := 4) hx hb hts iw_X6_tell_X6 hown hKX.1 hP 0 rfl rfl 1 (by decide) (hts (.fieldLink RX6 28 "TrainFerry$Schedule" "values" "[I") (by decide +kernel)) (fun _ h9 => h9) rfl dX6_tell_76 ?_
  refine lv_iload_n hx hb dX6_tell_79 rfl (lv_at hl 0 rfl) ?_
  refine lv_iload_n hx hb dX6_tell_80 rfl (lv_at hl 3 rfl) ?_
  refine va_iast hx hb hKX.1 hP hD hS 2 0 rfl rfl (vind (by decide)) dX6_tell_81 (fun H locs hP hD hS => ?_)
  have hP : va_P D vwCl [(h, .inr (6, [.ref f, .ref g, .int 0, .int (-1)])), (f, .inl (cy 0, 20, .inl g1)), (g, .inl (cy 0, 20, .inl (upd (fun _ => 0) (Int32.toNatClampNeg 0) v)))] H := hP
  have hD : va_D A [(h, .inr (6, [.ref f, .ref g, .int 0, .int (-1)])), (f, .inl (cy 0, 20, .inl g1)), (g, .inl (cy 0, 20, .inl (upd (fun _ => 0) (Int32.toNatClampNeg 0) v)))] := hD
  generalize upd (fun _ => 0) (Int32.toNatClampNeg 0) v = g2 at hP hD
  refine lv_aload_n hx hb dX6_tell_82 rfl (lv_at hl 1 rfl) ?_
  refine lv_dup hx hb dX6_tell_83 rfl ?_
  refine va_get (D := D) (ci := 6) (v := .int 0) (C := RX6) (T := TX6) (N := 4) hx hb hts iw_X6_tell_X6 hown hKX.1 hP 0 rfl rfl 2 (by decide) (hts (.fieldLink RX6 9 "TrainFerry$Schedule" "size" "I") (by decide +kernel)) (fun _ h9 => h9) rfl dX6_tell_84 ?_
  refine lv_iconst (v := 1) hx hb dX6_tell_87 (by decide) ?_
  refine lv_iadd hx hb dX6_tell_88 ?_
  refine lv_cst 1 (by decide) ?_
  refine va_put (D := D) (ci := 6) (v := .int 1) (ty := .int) (C := RX6) (T := TX6) (N := 4) hx hb hts iw_X6_tell_X6 tyX6 tyX6_ok nmX6 hown hKX.1 hP hD hS 0 rfl rfl 2 (by decide) (hts (.fieldLink RX6 9 "TrainFerry$Schedule" "size" "I") (by decide +kernel)) (fun _ h9 => h9) rfl (by decide +kernel) rfl rfl (Nat.le_of_ble_eq_true rfl) dX6_tell_89 (fun H locs hP hD hS => ?_)
  have hP : va_P D vwCl [(h, .inr (6, [.ref f, .ref g, .int 1, .int (-1)])), (f, .inl (cy 0, 20, .inl g1)), (g, .inl (cy 0, 20, .inl g2))] H := hP
  have hD : va_D A [(h, .inr (6, [.ref f, .ref g, .int 1, .int (-1)])), (f, .inl (cy 0, 20, .inl g1)), (g, .inl (cy 0, 20, .inl g2))] := hD
  exact en_v hx hb hr hlocks () trivial (hP.sub [] rfl) (hD.sub [] (by decide) rfl) hS (Nat.le_of_ble_eq_true rfl) (Nat.le_of_ble_eq_true rfl) dX6_tell_92
theorem iw_X11_rampIsOpen_X11 : ∀ w ∈ wsX110, w ∈ wsX11_rampIsOpen := by decide +kernel
theorem iw_X11_rampIsOpen_X7 : ∀ w ∈ wsX70, w ∈ wsX11_rampIsOpen := by decide +kernel
set_option maxHeartbeats 4000000 in
set_option maxRecDepth 100000 in
theorem c_rampIsOpen_0 (l : Launch) (D : va_G) (cy : Nat → ClassId) (xh : Nat) (xq : Nat → Nat) (nw : Int32) (sz : Nat) : Met l yX11_rampIsOpen wsX11_rampIsOpen ({ frames := 1, cells := 0, slots := 0, locals := 21 }) (wPre D cy [.ref xh, .int 0] sz [(xh, .inr (11, [.ref (xq 0), .ref (xq 23), .ref (xq 38), .ref (xq 39), .ref (xq 42), .ref (xq 43), .null, .null, .int 0, .int 0, .int nw, .int 0, .int 0, .int (-1), .int 0, .int 0, .int 5, .int 100])), (xc1 cy xh xq), (xc2 cy xh xq), (xc10 cy xh xq)]) (wQi D 0 (fun _ : Unit => True) (fun _u : Unit => [(xh, .inr (11, [.ref (xq 0), .ref (xq 23), .ref (xq 38), .ref (xq 39), .ref (xq 42), .ref (xq 43), .null, .null, .int 0, .int 0, .int nw, .int 0, .int 0, .int (-1), .int 0, .int 0, .int 5, .int 100])), (xc1 cy xh xq), (xc2 cy xh xq), (xc10 cy xh xq)]) (va_A [(xh, .inr (11, [.ref (xq 0), .ref (xq 23), .ref (xq 38), .ref (xq 39), .ref (xq 42), .ref (xq 43), .null, .null, .int 0, .int 0, .int nw, .int 0, .int 0, .int (-1), .int 0, .int 0, .int 5, .int 100])), (xc1 cy xh xq), (xc2 cy xh xq), (xc10 cy xh xq)] sz)) 0 0 (va_A [(xh, .inr (11, [.ref (xq 0), .ref (xq 23), .ref (xq 38), .ref (xq 39), .ref (xq 42), .ref (xq 43), .null, .null, .int 0, .int 0, .int nw, .int 0, .int 0, .int (-1), .int 0, .int 0, .int 5, .int 100])), (xc1 cy xh xq), (xc2 cy xh xq), (xc10 cy xh xq)] sz) := by
  refine met_go (y := yX11_rampIsOpen) (ws := wsX11_rampIsOpen) (av := [.ref xh, .int 0]) (cc := cX11_rampIsOpen) (maxL := 5) (ret := (some .boolean)) (Qc := fun A => wQi D 0 (fun _ : Unit => True) (fun _u : Unit => [(xh, .inr (11, [.ref (xq 0), .ref (xq 23), .ref (xq 38), .ref (xq 39), .ref (xq 42), .ref (xq 43), .null, .null, .int 0, .int 0, .int nw, .int 0, .int 0, .int (-1), .int 0, .int 0, .int 5, .int 100])), (xc1 cy xh xq), (xc2 cy xh xq), (xc10 cy xh xq)]) A) (by decide) rfl (Nat.le_of_ble_eq_true rfl) ?_
  intro p e s m below meth c ls A hx hb hr hml hown hts hlocks hname hKX hP hD hA hS hl
  have hown : s.vm.findClass RX11 = some m.cls := hown
  have hl : lv_has ls 5 [(0, .ref xh), (1, .int 0)] := hl
  refine lv_aload_n hx hb dX11_rampIsOpen_0 rfl (lv_at hl 0 rfl) ?_
  refine va_get (D := D) (ci := 11) (v := .ref (xq 0)) (C := RX11) (T := TX11) (N := 18) hx hb hts iw_X11_rampIsOpen_X11 hown hKX.1 hP 0 rfl rfl 0 (by decide) (hts (.fieldLink RX11 10 "TrainFerry" "shores" "[LTrainFerry$Shore;") (by decide +kernel)) (fun _ h9 => h9) rfl dX11_rampIsOpen_1 ?_
  refine lv_iload_n hx hb dX11_rampIsOpen_4 rfl (lv_at hl 1 rfl) ?_
  refine va_aldq hx hb hKX.1 hP 1 5 rfl rfl (vind (by decide)) dX11_rampIsOpen_5 ?_
  refine lv_csv (.ref (xq 1)) rfl ?_
  refine va_get (D := D) (ci := 7) (v := .ref (xq 9)) (C := RX7) (T := TX7) (N := 3) hx hb hts iw_X11_rampIsOpen_X7 hown hKX.1 hP 2 rfl rfl 1 (by decide) (hts (.fieldLink RX11 141 "TrainFerry$Shore" "tides" "LTrainFerry$Schedule;") (by decide +kernel)) (fun _ h9 => h9) rfl dX11_rampIsOpen_6 ?_
  refine lv_astore_n (lv' := [(2, .ref (xq 9)), (0, .ref xh), (1, .int 0)]) hx hb dX11_rampIsOpen_9 rfl hl (by decide) rfl (fun ls hl => ?_)
  refine lv_aload_n hx hb dX11_rampIsOpen_10 rfl (lv_at hl 1 rfl) ?_
  refine va_get (D := D) (ci := 11) (v := .ref (xq 0)) (C := RX11) (T := TX11) (N := 18) hx hb hts iw_X11_rampIsOpen_X11 hown hKX.1 hP 0 rfl rfl 0 (by decide) (hts (.fieldLink RX11 10 "TrainFerry" "shores" "[LTrainFerry$Shore;") (by decide +kernel)) (fun _ h9 => h9) rfl dX11_rampIsOpen_11 ?_
  refine lv_iload_n hx hb dX11_rampIsOpen_14 rfl (lv_at hl 2 rfl) ?_
  refine va_aldq hx hb hKX.1 hP 1 5 rfl rfl (vind (by decide)) dX11_rampIsOpen_15 ?_
  refine lv_csv (.ref (xq 1)) rfl ?_
  refine va_get (D := D) (ci := 7) (v := .int 0) (C := RX7) (T := TX7) (N := 3) hx hb hts iw_X11_rampIsOpen_X7 hown hKX.1 hP 2 rfl rfl 2 (by decide) (hts (.fieldLink RX11 150 "TrainFerry$Shore" "broken" "Z") (by decide +kernel)) (fun _ h9 => h9) rfl dX11_rampIsOpen_16 ?_
  refine lv_if_ne (tgt := 33) hx hb dX11_rampIsOpen_19 (by decide) (fun c9 => absurd (by decide) c9) (fun _ => ?_)
  refine lv_aload_n hx hb dX11_rampIsOpen_22 rfl (lv_at hl 0 rfl) ?_
  refine lv_aload_n hx hb dX11_rampIsOpen_23 rfl (lv_at hl 1 rfl) ?_
  refine va_get (D := D) (ci := 11) (v := .int nw) (C := RX11) (T := TX11) (N := 18) hx hb hts iw_X11_rampIsOpen_X11 hown hKX.1 hP 0 rfl rfl 10 (by decide) (hts (.fieldLink RX11 67 "TrainFerry" "now" "I") (by decide +kernel)) (fun _ h9 => h9) rfl dX11_rampIsOpen_24 ?_
  refine cl_i (wr := [(xh, .inr (11, [.ref (xq 0), .ref (xq 23), .ref (xq 38), .ref (xq 39), .ref (xq 42), .ref (xq 43), .null, .null, .int 0, .int 0, .int nw, .int 0, .int 0, .int (-1), .int 0, .int 0, .int 5, .int 100])), (xc1 cy xh xq), (xc2 cy xh xq)]) (va_runV (As := [.int nw]) (rest := []) ⟨hx, hb, hml, hown, hts⟩ (c_hasValueIn l D cy (xq 9) (xq 10) (xq 11) nw _) (cwV 1 hts gX11_rampIsOpen_X6_hasValueIn rfl rfl rfl (by decide +kernel) ⟨(Nat.le_of_ble_eq_true rfl), (Nat.le_of_ble_eq_true rfl)⟩) (pre_V hKX hP hD (ci := 6) (q0 := 3) rfl rfl [3] rfl (by decide) rfl) rfl rfl hl.1 rfl (lv_room (Nat.le_of_ble_eq_true rfl)) dX11_rampIsOpen_27 ⟨(Nat.le_of_ble_eq_true rfl), (Nat.le_of_ble_eq_true rfl)⟩) hP hD hS hA [3] [0, 1, 2] rfl rfl (by decide) (by decide) (fun u1 H locs _ hP hD hS => ?_)
  have hP : va_P D vwCl [(xh, .inr (11, [.ref (xq 0), .ref (xq 23), .ref (xq 38), .ref (xq 39), .ref (xq 42), .ref (xq 43), .null, .null, .int 0, .int 0, .int nw, .int 0, .int 0, .int (-1), .int 0, .int 0, .int 5, .int 100])), (xc1 cy xh xq), (xc2 cy xh xq), ((xq 9), .inr (6, [.ref (xq 10), .ref (xq 11), .int 0, .int (-1)]))] H := hP
  have hD : va_D A [(xh, .inr (11, [.ref (xq 0), .ref (xq 23), .ref (xq 38), .ref (xq 39), .ref (xq 42), .ref (xq 43), .null, .null, .int 0, .int 0, .int nw, .int 0, .int 0, .int (-1), .int 0, .int 0, .int 5, .int 100])), (xc1 cy xh xq), (xc2 cy xh xq), ((xq 9), .inr (6, [.ref (xq 10), .ref (xq 11), .int 0, .int (-1)]))] := hD
  refine lv_if_ne (tgt := 35) hx hb dX11_rampIsOpen_30 (by decide) (fun c9 => absurd (by decide) c9) (fun _ => ?_)
  refine lv_iconst (v := 0) hx hb dX11_rampIsOpen_33 (by decide) ?_
  exact en_z hx hb hr hlocks rfl () rfl trivial (hP.sub [0, 1, 2, 3] rfl) (hD.sub [0, 1, 2, 3] (by decide) rfl) hS (Nat.le_of_ble_eq_true rfl) (Nat.le_of_ble_eq_true rfl) dX11_rampIsOpen_34
set_option maxHeartbeats 4000000 in
set_option maxRecDepth 100000 in
theorem c_rampIsOpen_1 (l : Launch) (D : va_G) (cy : Nat → ClassId) (xh : Nat) (xq : Nat → Nat) (nw : Int32) (sz : Nat) : Met l yX11_rampIsOpen wsX11_rampIsOpen ({ frames := 1, cells := 0, slots := 0, locals := 21 }) (wPre D cy [.ref xh, .int 1] sz [(xh, .inr (11, [.ref (xq 0), .ref (xq 23), .ref (xq 38), .ref (xq 39), .ref (xq 42), .ref (xq 43), .null, .null, .int 0, .int 0, .int nw, .int 0, .int 0, .int (-1), .int 0, .int 0, .int 5, .int 100])), (xc1 cy xh xq), (xc13 cy xh xq), (xc21 cy xh xq)]) (wQi D 0 (fun _ : Unit => True) (fun _u : Unit => [(xh, .inr (11, [.ref (xq 0), .ref (xq 23), .ref (xq 38), .ref (xq 39), .ref (xq 42), .ref (xq 43), .null, .null, .int 0, .int 0, .int nw, .int 0, .int 0, .int (-1), .int 0, .int 0, .int 5, .int 100])), (xc1 cy xh xq), (xc13 cy xh xq), (xc21 cy xh xq)]) (va_A [(xh, .inr (11, [.ref (xq 0), .ref (xq 23), .ref (xq 38), .ref (xq 39), .ref (xq 42), .ref (xq 43), .null, .null, .int 0, .int 0, .int nw, .int 0, .int 0, .int (-1), .int 0, .int 0, .int 5, .int 100])), (xc1 cy xh xq), (xc13 cy xh xq), (xc21 cy xh xq)] sz)) 0 0 (va_A [(xh, .inr (11, [.ref (xq 0), .ref (xq 23), .ref (xq 38), .ref (xq 39), .ref (xq 42), .ref (xq 43), .null, .null, .int 0, .int 0, .int nw, .int 0, .int 0, .int (-1), .int 0, .int 0, .int 5, .int 100])), (xc1 cy xh xq), (xc13 cy xh xq), (xc21 cy xh xq)] sz) := by
  refine met_go (y := yX11_rampIsOpen) (ws := wsX11_rampIsOpen) (av := [.ref xh, .int 1]) (cc := cX11_rampIsOpen) (maxL := 5) (ret := (some .boolean)) (Qc := fun A => wQi D 0 (fun _ : Unit => True) (fun _u : Unit => [(xh, .inr (11, [.ref (xq 0), .ref (xq 23), .ref (xq 38), .ref (xq 39), .ref (xq 42), .ref (xq 43), .null, .null, .int 0, .int 0, .int nw, .int 0, .int 0, .int (-1), .int 0, .int 0, .int 5, .int 100])), (xc1 cy xh xq), (xc13 cy xh xq), (xc21 cy xh xq)]) A) (by decide) rfl (Nat.le_of_ble_eq_true rfl) ?_
  intro p e s m below meth c ls A hx hb hr hml hown hts hlocks hname hKX hP hD hA hS hl
  have hown : s.vm.findClass RX11 = some m.cls := hown
  have hl : lv_has ls 5 [(0, .ref xh), (1, .int 1)] := hl
  refine lv_aload_n hx hb dX11_rampIsOpen_0 rfl (lv_at hl 0 rfl) ?_
  refine va_get (D := D) (ci := 11) (v := .ref (xq 0)) (C := RX11) (T := TX11) (N := 18) hx hb hts iw_X11_rampIsOpen_X11 hown hKX.1 hP 0 rfl rfl 0 (by decide) (hts (.fieldLink RX11 10 "TrainFerry" "shores" "[LTrainFerry$Shore;") (by decide +kernel)) (fun _ h9 => h9) rfl dX11_rampIsOpen_1 ?_
  refine lv_iload_n hx hb dX11_rampIsOpen_4 rfl (lv_at hl 1 rfl) ?_
  refine va_aldq hx hb hKX.1 hP 1 5 rfl rfl (vind (by decide)) dX11_rampIsOpen_5 ?_
  refine lv_csv (.ref (xq 12)) rfl ?_
  refine va_get (D := D) (ci := 7) (v := .ref (xq 20)) (C := RX7) (T := TX7) (N := 3) hx hb hts iw_X11_rampIsOpen_X7 hown hKX.1 hP 2 rfl rfl 1 (by decide) (hts (.fieldLink RX11 141 "TrainFerry$Shore" "tides" "LTrainFerry$Schedule;") (by decide +kernel)) (fun _ h9 => h9) rfl dX11_rampIsOpen_6 ?_
  refine lv_astore_n (lv' := [(2, .ref (xq 20)), (0, .ref xh), (1, .int 1)]) hx hb dX11_rampIsOpen_9 rfl hl (by decide) rfl (fun ls hl => ?_)
  refine lv_aload_n hx hb dX11_rampIsOpen_10 rfl (lv_at hl 1 rfl) ?_
  refine va_get (D := D) (ci := 11) (v := .ref (xq 0)) (C := RX11) (T := TX11) (N := 18) hx hb hts iw_X11_rampIsOpen_X11 hown hKX.1 hP 0 rfl rfl 0 (by decide) (hts (.fieldLink RX11 10 "TrainFerry" "shores" "[LTrainFerry$Shore;") (by decide +kernel)) (fun _ h9 => h9) rfl dX11_rampIsOpen_11 ?_
  refine lv_iload_n hx hb dX11_rampIsOpen_14 rfl (lv_at hl 2 rfl) ?_
  refine va_aldq hx hb hKX.1 hP 1 5 rfl rfl (vind (by decide)) dX11_rampIsOpen_15 ?_
  refine lv_csv (.ref (xq 12)) rfl ?_
  refine va_get (D := D) (ci := 7) (v := .int 0) (C := RX7) (T := TX7) (N := 3) hx hb hts iw_X11_rampIsOpen_X7 hown hKX.1 hP 2 rfl rfl 2 (by decide) (hts (.fieldLink RX11 150 "TrainFerry$Shore" "broken" "Z") (by decide +kernel)) (fun _ h9 => h9) rfl dX11_rampIsOpen_16 ?_
  refine lv_if_ne (tgt := 33) hx hb dX11_rampIsOpen_19 (by decide) (fun c9 => absurd (by decide) c9) (fun _ => ?_)
  refine lv_aload_n hx hb dX11_rampIsOpen_22 rfl (lv_at hl 0 rfl) ?_
  refine lv_aload_n hx hb dX11_rampIsOpen_23 rfl (lv_at hl 1 rfl) ?_
  refine va_get (D := D) (ci := 11) (v := .int nw) (C := RX11) (T := TX11) (N := 18) hx hb hts iw_X11_rampIsOpen_X11 hown hKX.1 hP 0 rfl rfl 10 (by decide) (hts (.fieldLink RX11 67 "TrainFerry" "now" "I") (by decide +kernel)) (fun _ h9 => h9) rfl dX11_rampIsOpen_24 ?_
  refine cl_i (wr := [(xh, .inr (11, [.ref (xq 0), .ref (xq 23), .ref (xq 38), .ref (xq 39), .ref (xq 42), .ref (xq 43), .null, .null, .int 0, .int 0, .int nw, .int 0, .int 0, .int (-1), .int 0, .int 0, .int 5, .int 100])), (xc1 cy xh xq), (xc13 cy xh xq)]) (va_runV (As := [.int nw]) (rest := []) ⟨hx, hb, hml, hown, hts⟩ (c_hasValueIn l D cy (xq 20) (xq 21) (xq 22) nw _) (cwV 1 hts gX11_rampIsOpen_X6_hasValueIn rfl rfl rfl (by decide +kernel) ⟨(Nat.le_of_ble_eq_true rfl), (Nat.le_of_ble_eq_true rfl)⟩) (pre_V hKX hP hD (ci := 6) (q0 := 3) rfl rfl [3] rfl (by decide) rfl) rfl rfl hl.1 rfl (lv_room (Nat.le_of_ble_eq_true rfl)) dX11_rampIsOpen_27 ⟨(Nat.le_of_ble_eq_true rfl), (Nat.le_of_ble_eq_true rfl)⟩) hP hD hS hA [3] [0, 1, 2] rfl rfl (by decide) (by decide) (fun u1 H locs _ hP hD hS => ?_)
  have hP : va_P D vwCl [(xh, .inr (11, [.ref (xq 0), .ref (xq 23), .ref (xq 38), .ref (xq 39), .ref (xq 42), .ref (xq 43), .null, .null, .int 0, .int 0, .int nw, .int 0, .int 0, .int (-1), .int 0, .int 0, .int 5, .int 100])), (xc1 cy xh xq), (xc13 cy xh xq), ((xq 20), .inr (6, [.ref (xq 21), .ref (xq 22), .int 0, .int (-1)]))] H := hP
  have hD : va_D A [(xh, .inr (11, [.ref (xq 0), .ref (xq 23), .ref (xq 38), .ref (xq 39), .ref (xq 42), .ref (xq 43), .null, .null, .int 0, .int 0, .int nw, .int 0, .int 0, .int (-1), .int 0, .int 0, .int 5, .int 100])), (xc1 cy xh xq), (xc13 cy xh xq), ((xq 20), .inr (6, [.ref (xq 21), .ref (xq 22), .int 0, .int (-1)]))] := hD
  refine lv_if_ne (tgt := 35) hx hb dX11_rampIsOpen_30 (by decide) (fun c9 => absurd (by decide) c9) (fun _ => ?_)
  refine lv_iconst (v := 0) hx hb dX11_rampIsOpen_33 (by decide) ?_
  exact en_z hx hb hr hlocks rfl () rfl trivial (hP.sub [0, 1, 2, 3] rfl) (hD.sub [0, 1, 2, 3] (by decide) rfl) hS (Nat.le_of_ble_eq_true rfl) (Nat.le_of_ble_eq_true rfl) dX11_rampIsOpen_34
theorem iw_X11_causeAt_X11 : ∀ w ∈ wsX110, w ∈ wsX11_causeAt := by decide +kernel
set_option maxHeartbeats 4000000 in
set_option maxRecDepth 100000 in
theorem c_causeAt_0 (l : Launch) (D : va_G) (cy : Nat → ClassId) (xh : Nat) (xq : Nat → Nat) (nw : Int32) (sz : Nat) : Met l yX11_causeAt wsX11_causeAt ({ frames := 2, cells := 0, slots := 0, locals := 45 }) (wPre D cy [.ref xh, .int 0] sz [(xh, .inr (11, [.ref (xq 0), .ref (xq 23), .ref (xq 38), .ref (xq 39), .ref (xq 42), .ref (xq 43), .null, .null, .int 0, .int 0, .int nw, .int 0, .int 0, .int (-1), .int 0, .int 0, .int 5, .int 100])), (xc1 cy xh xq), (xc2 cy xh xq), (xc10 cy xh xq)]) (wQi D 1 (fun _ : Unit => True) (fun _u : Unit => [(xh, .inr (11, [.ref (xq 0), .ref (xq 23), .ref (xq 38), .ref (xq 39), .ref (xq 42), .ref (xq 43), .null, .null, .int 0, .int 0, .int nw, .int 0, .int 0, .int (-1), .int 0, .int 0, .int 5, .int 100])), (xc1 cy xh xq), (xc2 cy xh xq), (xc10 cy xh xq)]) (va_A [(xh, .inr (11, [.ref (xq 0), .ref (xq 23), .ref (xq 38), .ref (xq 39), .ref (xq 42), .ref (xq 43), .null, .null, .int 0, .int 0, .int nw, .int 0, .int 0, .int (-1), .int 0, .int 0, .int 5, .int 100])), (xc1 cy xh xq), (xc2 cy xh xq), (xc10 cy xh xq)] sz)) 0 0 (va_A [(xh, .inr (11, [.ref (xq 0), .ref (xq 23), .ref (xq 38), .ref (xq 39), .ref (xq 42), .ref (xq 43), .null, .null, .int 0, .int 0, .int nw, .int 0, .int 0, .int (-1), .int 0, .int 0, .int 5, .int 100])), (xc1 cy xh xq), (xc2 cy xh xq), (xc10 cy xh xq)] sz) := by
  refine met_go (y := yX11_causeAt) (ws := wsX11_causeAt) (av := [.ref xh, .int 0]) (cc := cX11_causeAt) (maxL := 2) (ret := (some .int)) (Qc := fun A => wQi D 1 (fun _ : Unit => True) (fun _u : Unit => [(xh, .inr (11, [.ref (xq 0), .ref (xq 23), .ref (xq 38), .ref (xq 39), .ref (xq 42), .ref (xq 43), .null, .null, .int 0, .int 0, .int nw, .int 0, .int 0, .int (-1), .int 0, .int 0, .int 5, .int 100])), (xc1 cy xh xq), (xc2 cy xh xq), (xc10 cy xh xq)]) A) (by decide) rfl (Nat.le_of_ble_eq_true rfl) ?_
  intro p e s m below meth c ls A hx hb hr hml hown hts hlocks hname hKX hP hD hA hS hl
  have hown : s.vm.findClass RX11 = some m.cls := hown
  have hl : lv_has ls 2 [(0, .ref xh), (1, .int 0)] := hl
  refine lv_aload_n hx hb dX11_causeAt_0 rfl (lv_at hl 0 rfl) ?_
  refine va_get (D := D) (ci := 11) (v := .int 0) (C := RX11) (T := TX11) (N := 18) hx hb hts iw_X11_causeAt_X11 hown hKX.1 hP 0 rfl rfl 15 (by decide) (hts (.fieldLink RX11 82 "TrainFerry" "sea" "I") (by decide +kernel)) (fun _ h9 => h9) rfl dX11_causeAt_1 ?_
  refine lv_iconst (v := 5) hx hb dX11_causeAt_4 (by decide) ?_
  refine lv_icmp_ne (tgt := 10) hx hb dX11_causeAt_5 (by decide) (fun _ => ?_) (fun c9 => absurd c9 (by decide))
  refine lv_aload_n hx hb dX11_causeAt_10 rfl (lv_at hl 0 rfl) ?_
  refine lv_iload_n hx hb dX11_causeAt_11 rfl (lv_at hl 1 rfl) ?_
  refine cl_i (wr := []) (va_runV (As := [.int 0]) (rest := []) ⟨hx, hb, hml, hown, hts⟩ (c_rampIsOpen_0 l D cy xh xq nw _) (cwV 1 hts gX11_causeAt_X11_rampIsOpen rfl rfl rfl (by decide +kernel) ⟨(Nat.le_of_ble_eq_true rfl), (Nat.le_of_ble_eq_true rfl)⟩) (pre_V hKX hP hD (ci := 11) (q0 := 0) rfl rfl [0, 1, 2, 3] rfl (by decide) rfl) rfl rfl hl.1 rfl (lv_room (Nat.le_of_ble_eq_true rfl)) dX11_causeAt_12 ⟨(Nat.le_of_ble_eq_true rfl), (Nat.le_of_ble_eq_true rfl)⟩) hP hD hS hA [0, 1, 2, 3] [] rfl rfl (by decide) (by decide) (fun u1 H locs _ hP hD hS => ?_)
  have hP : va_P D vwCl [(xh, .inr (11, [.ref (xq 0), .ref (xq 23), .ref (xq 38), .ref (xq 39), .ref (xq 42), .ref (xq 43), .null, .null, .int 0, .int 0, .int nw, .int 0, .int 0, .int (-1), .int 0, .int 0, .int 5, .int 100])), (xc1 cy xh xq), (xc2 cy xh xq), (xc10 cy xh xq)] H := hP
  have hD : va_D A [(xh, .inr (11, [.ref (xq 0), .ref (xq 23), .ref (xq 38), .ref (xq 39), .ref (xq 42), .ref (xq 43), .null, .null, .int 0, .int 0, .int nw, .int 0, .int 0, .int (-1), .int 0, .int 0, .int 5, .int 100])), (xc1 cy xh xq), (xc2 cy xh xq), (xc10 cy xh xq)] := hD
  refine lv_if_ne (tgt := 20) hx hb dX11_causeAt_15 (by decide) (fun c9 => absurd (by decide) c9) (fun _ => ?_)
  refine lv_iconst (v := 1) hx hb dX11_causeAt_18 (by decide) ?_
  exact en_i hx hb hr hlocks () rfl trivial (hP.sub [0, 1, 2, 3] rfl) (hD.sub [0, 1, 2, 3] (by decide) rfl) hS (Nat.le_of_ble_eq_true rfl) (Nat.le_of_ble_eq_true rfl) dX11_causeAt_19
set_option maxHeartbeats 4000000 in
set_option maxRecDepth 100000 in
theorem c_causeAt_1 (l : Launch) (D : va_G) (cy : Nat → ClassId) (xh : Nat) (xq : Nat → Nat) (nw : Int32) (sz : Nat) : Met l yX11_causeAt wsX11_causeAt ({ frames := 2, cells := 0, slots := 0, locals := 45 }) (wPre D cy [.ref xh, .int 1] sz [(xh, .inr (11, [.ref (xq 0), .ref (xq 23), .ref (xq 38), .ref (xq 39), .ref (xq 42), .ref (xq 43), .null, .null, .int 0, .int 0, .int nw, .int 0, .int 0, .int (-1), .int 0, .int 0, .int 5, .int 100])), (xc1 cy xh xq), (xc13 cy xh xq), (xc21 cy xh xq)]) (wQi D 1 (fun _ : Unit => True) (fun _u : Unit => [(xh, .inr (11, [.ref (xq 0), .ref (xq 23), .ref (xq 38), .ref (xq 39), .ref (xq 42), .ref (xq 43), .null, .null, .int 0, .int 0, .int nw, .int 0, .int 0, .int (-1), .int 0, .int 0, .int 5, .int 100])), (xc1 cy xh xq), (xc13 cy xh xq), (xc21 cy xh xq)]) (va_A [(xh, .inr (11, [.ref (xq 0), .ref (xq 23), .ref (xq 38), .ref (xq 39), .ref (xq 42), .ref (xq 43), .null, .null, .int 0, .int 0, .int nw, .int 0, .int 0, .int (-1), .int 0, .int 0, .int 5, .int 100])), (xc1 cy xh xq), (xc13 cy xh xq), (xc21 cy xh xq)] sz)) 0 0 (va_A [(xh, .inr (11, [.ref (xq 0), .ref (xq 23), .ref (xq 38), .ref (xq 39), .ref (xq 42), .ref (xq 43), .null, .null, .int 0, .int 0, .int nw, .int 0, .int 0, .int (-1), .int 0, .int 0, .int 5, .int 100])), (xc1 cy xh xq), (xc13 cy xh xq), (xc21 cy xh xq)] sz) := by
  refine met_go (y := yX11_causeAt) (ws := wsX11_causeAt) (av := [.ref xh, .int 1]) (cc := cX11_causeAt) (maxL := 2) (ret := (some .int)) (Qc := fun A => wQi D 1 (fun _ : Unit => True) (fun _u : Unit => [(xh, .inr (11, [.ref (xq 0), .ref (xq 23), .ref (xq 38), .ref (xq 39), .ref (xq 42), .ref (xq 43), .null, .null, .int 0, .int 0, .int nw, .int 0, .int 0, .int (-1), .int 0, .int 0, .int 5, .int 100])), (xc1 cy xh xq), (xc13 cy xh xq), (xc21 cy xh xq)]) A) (by decide) rfl (Nat.le_of_ble_eq_true rfl) ?_
  intro p e s m below meth c ls A hx hb hr hml hown hts hlocks hname hKX hP hD hA hS hl
  have hown : s.vm.findClass RX11 = some m.cls := hown
  have hl : lv_has ls 2 [(0, .ref xh), (1, .int 1)] := hl
  refine lv_aload_n hx hb dX11_causeAt_0 rfl (lv_at hl 0 rfl) ?_
  refine va_get (D := D) (ci := 11) (v := .int 0) (C := RX11) (T := TX11) (N := 18) hx hb hts iw_X11_causeAt_X11 hown hKX.1 hP 0 rfl rfl 15 (by decide) (hts (.fieldLink RX11 82 "TrainFerry" "sea" "I") (by decide +kernel)) (fun _ h9 => h9) rfl dX11_causeAt_1 ?_
  refine lv_iconst (v := 5) hx hb dX11_causeAt_4 (by decide) ?_
  refine lv_icmp_ne (tgt := 10) hx hb dX11_causeAt_5 (by decide) (fun _ => ?_) (fun c9 => absurd c9 (by decide))
  refine lv_aload_n hx hb dX11_causeAt_10 rfl (lv_at hl 0 rfl) ?_
  refine lv_iload_n hx hb dX11_causeAt_11 rfl (lv_at hl 1 rfl) ?_
  refine cl_i (wr := []) (va_runV (As := [.int 1]) (rest := []) ⟨hx, hb, hml, hown, hts⟩ (c_rampIsOpen_1 l D cy xh xq nw _) (cwV 1 hts gX11_causeAt_X11_rampIsOpen rfl rfl rfl (by decide +kernel) ⟨(Nat.le_of_ble_eq_true rfl), (Nat.le_of_ble_eq_true rfl)⟩) (pre_V hKX hP hD (ci := 11) (q0 := 0) rfl rfl [0, 1, 2, 3] rfl (by decide) rfl) rfl rfl hl.1 rfl (lv_room (Nat.le_of_ble_eq_true rfl)) dX11_causeAt_12 ⟨(Nat.le_of_ble_eq_true rfl), (Nat.le_of_ble_eq_true rfl)⟩) hP hD hS hA [0, 1, 2, 3] [] rfl rfl (by decide) (by decide) (fun u1 H locs _ hP hD hS => ?_)
  have hP : va_P D vwCl [(xh, .inr (11, [.ref (xq 0), .ref (xq 23), .ref (xq 38), .ref (xq 39), .ref (xq 42), .ref (xq 43), .null, .null, .int 0, .int 0, .int nw, .int 0, .int 0, .int (-1), .int 0, .int 0, .int 5, .int 100])), (xc1 cy xh xq), (xc13 cy xh xq), (xc21 cy xh xq)] H := hP
  have hD : va_D A [(xh, .inr (11, [.ref (xq 0), .ref (xq 23), .ref (xq 38), .ref (xq 39), .ref (xq 42), .ref (xq 43), .null, .null, .int 0, .int 0, .int nw, .int 0, .int 0, .int (-1), .int 0, .int 0, .int 5, .int 100])), (xc1 cy xh xq), (xc13 cy xh xq), (xc21 cy xh xq)] := hD
  refine lv_if_ne (tgt := 20) hx hb dX11_causeAt_15 (by decide) (fun c9 => absurd (by decide) c9) (fun _ => ?_)
  refine lv_iconst (v := 1) hx hb dX11_causeAt_18 (by decide) ?_
  exact en_i hx hb hr hlocks () rfl trivial (hP.sub [0, 1, 2, 3] rfl) (hD.sub [0, 1, 2, 3] (by decide) rfl) hS (Nat.le_of_ble_eq_true rfl) (Nat.le_of_ble_eq_true rfl) dX11_causeAt_19
theorem iw_X11_agreementInForce_X11 : ∀ w ∈ wsX110, w ∈ wsX11_agreementInForce := by decide +kernel
theorem iw_X11_agreementInForce_X6 : ∀ w ∈ wsX60, w ∈ wsX11_agreementInForce := by decide +kernel
set_option maxHeartbeats 4000000 in
set_option maxRecDepth 100000 in
theorem c_inForce (l : Launch) (D : va_G) (cy : Nat → ClassId) (xh : Nat) (xq : Nat → Nat) (nw : Int32) (sz : Nat) : Met l yX11_agreementInForce wsX11_agreementInForce ({ frames := 2, cells := 0, slots := 0, locals := 43 }) (wPre D cy [.ref xh] sz [(xh, .inr (11, [.ref (xq 0), .ref (xq 23), .ref (xq 38), .ref (xq 39), .ref (xq 42), .ref (xq 43), .null, .null, .int 0, .int 0, .int nw, .int 0, .int 0, .int (-1), .int 0, .int 0, .int 5, .int 100])), (xc44 cy xh xq)]) (wQq D (fun _u : Unit => none) (fun _ : Unit => True) (fun _u : Unit => [(xh, .inr (11, [.ref (xq 0), .ref (xq 23), .ref (xq 38), .ref (xq 39), .ref (xq 42), .ref (xq 43), .null, .null, .int 0, .int 0, .int nw, .int 0, .int 0, .int (-1), .int 0, .int 0, .int 5, .int 100])), (xc44 cy xh xq)]) (va_A [(xh, .inr (11, [.ref (xq 0), .ref (xq 23), .ref (xq 38), .ref (xq 39), .ref (xq 42), .ref (xq 43), .null, .null, .int 0, .int 0, .int nw, .int 0, .int 0, .int (-1), .int 0, .int 0, .int 5, .int 100])), (xc44 cy xh xq)] sz)) 0 0 (va_A [(xh, .inr (11, [.ref (xq 0), .ref (xq 23), .ref (xq 38), .ref (xq 39), .ref (xq 42), .ref (xq 43), .null, .null, .int 0, .int 0, .int nw, .int 0, .int 0, .int (-1), .int 0, .int 0, .int 5, .int 100])), (xc44 cy xh xq)] sz) := by
  refine met_go (y := yX11_agreementInForce) (ws := wsX11_agreementInForce) (av := [.ref xh]) (cc := cX11_agreementInForce) (maxL := 2) (ret := (some (.object "TrainFerry$Agreement"))) (Qc := fun A => wQq D (fun _u : Unit => none) (fun _ : Unit => True) (fun _u : Unit => [(xh, .inr (11, [.ref (xq 0), .ref (xq 23), .ref (xq 38), .ref (xq 39), .ref (xq 42), .ref (xq 43), .null, .null, .int 0, .int 0, .int nw, .int 0, .int 0, .int (-1), .int 0, .int 0, .int 5, .int 100])), (xc44 cy xh xq)]) A) (by decide) rfl (Nat.le_of_ble_eq_true rfl) ?_
  intro p e s m below meth c ls A hx hb hr hml hown hts hlocks hname hKX hP hD hA hS hl
  have hown : s.vm.findClass RX11 = some m.cls := hown
  have hl : lv_has ls 2 [(0, .ref xh)] := hl
  refine lv_aload_n hx hb dX11_agreementInForce_0 rfl (lv_at hl 0 rfl) ?_
  refine va_get (D := D) (ci := 11) (v := .ref (xq 43)) (C := RX11) (T := TX11) (N := 18) hx hb hts iw_X11_agreementInForce_X11 hown hKX.1 hP 0 rfl rfl 5 (by decide) (hts (.fieldLink RX11 47 "TrainFerry" "agreed" "LTrainFerry$Schedule;") (by decide +kernel)) (fun _ h9 => h9) rfl dX11_agreementInForce_1 ?_
  refine lv_aload_n hx hb dX11_agreementInForce_4 rfl (lv_at hl 0 rfl) ?_
  refine va_get (D := D) (ci := 11) (v := .int nw) (C := RX11) (T := TX11) (N := 18) hx hb hts iw_X11_agreementInForce_X11 hown hKX.1 hP 0 rfl rfl 10 (by decide) (hts (.fieldLink RX11 67 "TrainFerry" "now" "I") (by decide +kernel)) (fun _ h9 => h9) rfl dX11_agreementInForce_5 ?_
  refine lv_iconst (v := (-1)) hx hb dX11_agreementInForce_8 (by decide) ?_
  refine cl_i (wr := [(xh, .inr (11, [.ref (xq 0), .ref (xq 23), .ref (xq 38), .ref (xq 39), .ref (xq 42), .ref (xq 43), .null, .null, .int 0, .int 0, .int nw, .int 0, .int 0, .int (-1), .int 0, .int 0, .int 5, .int 100]))]) (va_runV (As := [.int nw, .int (-1)]) (rest := []) ⟨hx, hb, hml, hown, hts⟩ (c_valueIn l D cy (xq 43) (xq 44) (xq 45) nw (-1) _) (cwV 2 hts gX11_agreementInForce_X6_valueIn rfl rfl rfl (by decide +kernel) ⟨(Nat.le_of_ble_eq_true rfl), (Nat.le_of_ble_eq_true rfl)⟩) (pre_V hKX hP hD (ci := 6) (q0 := 1) rfl rfl [1] rfl (by decide) rfl) rfl rfl hl.1 rfl (lv_room (Nat.le_of_ble_eq_true rfl)) dX11_agreementInForce_9 ⟨(Nat.le_of_ble_eq_true rfl), (Nat.le_of_ble_eq_true rfl)⟩) hP hD hS hA [1] [0] rfl rfl (by decide) (by decide) (fun u1 H locs _ hP hD hS => ?_)
  have hP : va_P D vwCl [(xh, .inr (11, [.ref (xq 0), .ref (xq 23), .ref (xq 38), .ref (xq 39), .ref (xq 42), .ref (xq 43), .null, .null, .int 0, .int 0, .int nw, .int 0, .int 0, .int (-1), .int 0, .int 0, .int 5, .int 100])), ((xq 43), .inr (6, [.ref (xq 44), .ref (xq 45), .int 0, .int (-1)]))] H := hP
  have hD : va_D A [(xh, .inr (11, [.ref (xq 0), .ref (xq 23), .ref (xq 38), .ref (xq 39), .ref (xq 42), .ref (xq 43), .null, .null, .int 0, .int 0, .int nw, .int 0, .int 0, .int (-1), .int 0, .int 0, .int 5, .int 100])), ((xq 43), .inr (6, [.ref (xq 44), .ref (xq 45), .int 0, .int (-1)]))] := hD
  refine lv_istore_n (lv' := [(1, .int (-1)), (0, .ref xh)]) hx hb dX11_agreementInForce_12 rfl hl (by decide) rfl (fun ls hl => ?_)
  refine lv_iload_n hx hb dX11_agreementInForce_13 rfl (lv_at hl 0 rfl) ?_
  refine lv_iconst (v := 0) hx hb dX11_agreementInForce_14 (by decide) ?_
  refine lv_aload_n hx hb dX11_agreementInForce_15 rfl (lv_at hl 1 rfl) ?_
  refine va_get (D := D) (ci := 11) (v := .ref (xq 43)) (C := RX11) (T := TX11) (N := 18) hx hb hts iw_X11_agreementInForce_X11 hown hKX.1 hP 0 rfl rfl 5 (by decide) (hts (.fieldLink RX11 47 "TrainFerry" "agreed" "LTrainFerry$Schedule;") (by decide +kernel)) (fun _ h9 => h9) rfl dX11_agreementInForce_16 ?_
  refine va_get (D := D) (ci := 6) (v := .int 0) (C := RX6) (T := TX6) (N := 4) hx hb hts iw_X11_agreementInForce_X6 hown hKX.1 hP 1 rfl rfl 2 (by decide) (hts (.fieldLink RX11 144 "TrainFerry$Schedule" "size" "I") (by decide +kernel)) (fun _ h9 => h9) rfl dX11_agreementInForce_19 ?_
  refine lv_iconst (v := 1) hx hb dX11_agreementInForce_22 (by decide) ?_
  refine lv_isub hx hb dX11_agreementInForce_23 ?_
  refine lv_cst (-1) (by decide) ?_
  refine cl_i (wr := [(xh, .inr (11, [.ref (xq 0), .ref (xq 23), .ref (xq 38), .ref (xq 39), .ref (xq 42), .ref (xq 43), .null, .null, .int 0, .int 0, .int nw, .int 0, .int 0, .int (-1), .int 0, .int 0, .int 5, .int 100])), ((xq 43), .inr (6, [.ref (xq 44), .ref (xq 45), .int 0, .int (-1)]))]) (va_runS (As := [.int (-1), .int 0, .int (-1)]) (rest := []) ⟨hx, hb, hml, hown, hts⟩ (c_isWithin l D cy (-1) 0 (-1) _) (va_cwS 3 hts gX11_agreementInForce_X11_isWithin rfl rfl rfl (by decide +kernel) ⟨(Nat.le_of_ble_eq_true rfl), (Nat.le_of_ble_eq_true rfl)⟩) (pre_S hKX hP hD [] rfl (by decide) rfl) rfl rfl hl.1 rfl (lv_room (Nat.le_of_ble_eq_true rfl)) dX11_agreementInForce_24 ⟨(Nat.le_of_ble_eq_true rfl), (Nat.le_of_ble_eq_true rfl)⟩) hP hD hS hA [] [0, 1] rfl rfl (by decide) (by decide) (fun u2 H locs _ hP hD hS => ?_)
  have hP : va_P D vwCl [(xh, .inr (11, [.ref (xq 0), .ref (xq 23), .ref (xq 38), .ref (xq 39), .ref (xq 42), .ref (xq 43), .null, .null, .int 0, .int 0, .int nw, .int 0, .int 0, .int (-1), .int 0, .int 0, .int 5, .int 100])), ((xq 43), .inr (6, [.ref (xq 44), .ref (xq 45), .int 0, .int (-1)]))] H := hP
  have hD : va_D A [(xh, .inr (11, [.ref (xq 0), .ref (xq 23), .ref (xq 38), .ref (xq 39), .ref (xq 42), .ref (xq 43), .null, .null, .int 0, .int 0, .int nw, .int 0, .int 0, .int (-1), .int 0, .int 0, .int 5, .int 100])), ((xq 43), .inr (6, [.ref (xq 44), .ref (xq 45), .int 0, .int (-1)]))] := hD
  refine lv_cst 0 (by decide) ?_
  refine lv_if_eq (tgt := 39) hx hb dX11_agreementInForce_27 (by decide) (fun _ => ?_) (fun c9 => absurd (by decide) c9)
  refine lv_null hx hb dX11_agreementInForce_39 ?_
  exact en_q (v' := none) hx hb hr (Or.inl ⟨_, rfl⟩) hlocks rfl () rfl trivial (hP.sub [0, 1] rfl) (hD.sub [0, 1] (by decide) rfl) hS (Nat.le_of_ble_eq_true rfl) (Nat.le_of_ble_eq_true rfl) dX11_agreementInForce_40
theorem iw_X11_letTickGo_X11 : ∀ w ∈ wsX110, w ∈ wsX11_letTickGo := by decide +kernel
set_option maxHeartbeats 4000000 in
set_option maxRecDepth 100000 in
theorem c_letTickGo (l : Launch) (D : va_G) (cy : Nat → ClassId) (xh : Nat) (xq : Nat → Nat) (nw : Int32) (sz : Nat) : Met l yX11_letTickGo wsX11_letTickGo ({ frames := 3, cells := 0, slots := 0, locals := 66 }) (wPre D cy [.ref xh] sz [(xh, .inr (11, [.ref (xq 0), .ref (xq 23), .ref (xq 38), .ref (xq 39), .ref (xq 42), .ref (xq 43), .null, .null, .int 0, .int 0, .int nw, .int 0, .int 0, .int (-1), .int 0, .int 0, .int 5, .int 100])), (xc1 cy xh xq), (xc2 cy xh xq), (xc10 cy xh xq), (xc13 cy xh xq), (xc21 cy xh xq), (xc44 cy xh xq)]) (wQv D (fun _ : Unit => True) (fun _u : Unit => [(xc2 cy xh xq), (xc10 cy xh xq), (xc1 cy xh xq), (xc13 cy xh xq), (xc21 cy xh xq), (xh, .inr (11, [.ref (xq 0), .ref (xq 23), .ref (xq 38), .ref (xq 39), .ref (xq 42), .ref (xq 43), .null, .null, .int 0, .int 0, .int (nw + 1), .int 0, .int 0, .int (-1), .int 0, .int 0, .int 5, .int 100])), (xc44 cy xh xq)]) (va_A [(xh, .inr (11, [.ref (xq 0), .ref (xq 23), .ref (xq 38), .ref (xq 39), .ref (xq 42), .ref (xq 43), .null, .null, .int 0, .int 0, .int nw, .int 0, .int 0, .int (-1), .int 0, .int 0, .int 5, .int 100])), (xc1 cy xh xq), (xc2 cy xh xq), (xc10 cy xh xq), (xc13 cy xh xq), (xc21 cy xh xq), (xc44 cy xh xq)] sz)) 0 0 (va_A [(xh, .inr (11, [.ref (xq 0), .ref (xq 23), .ref (xq 38), .ref (xq 39), .ref (xq 42), .ref (xq 43), .null, .null, .int 0, .int 0, .int nw, .int 0, .int 0, .int (-1), .int 0, .int 0, .int 5, .int 100])), (xc1 cy xh xq), (xc2 cy xh xq), (xc10 cy xh xq), (xc13 cy xh xq), (xc21 cy xh xq), (xc44 cy xh xq)] sz) := by
  refine met_go (y := yX11_letTickGo) (ws := wsX11_letTickGo) (av := [.ref xh]) (cc := cX11_letTickGo) (maxL := 6) (ret := none) (Qc := fun A => wQv D (fun _ : Unit => True) (fun _u : Unit => [(xc2 cy xh xq), (xc10 cy xh xq), (xc1 cy xh xq), (xc13 cy xh xq), (xc21 cy xh xq), (xh, .inr (11, [.ref (xq 0), .ref (xq 23), .ref (xq 38), .ref (xq 39), .ref (xq 42), .ref (xq 43), .null, .null, .int 0, .int 0, .int (nw + 1), .int 0, .int 0, .int (-1), .int 0, .int 0, .int 5, .int 100])), (xc44 cy xh xq)]) A) (by decide) rfl (Nat.le_of_ble_eq_true rfl) ?_
  intro p e s m below meth c ls A hx hb hr hml hown hts hlocks hname hKX hP hD hA hS hl
  have hown : s.vm.findClass RX11 = some m.cls := hown
  have hl : lv_has ls 6 [(0, .ref xh)] := hl
  refine lv_aload_n hx hb dX11_letTickGo_0 rfl (lv_at hl 0 rfl) ?_
  refine lv_iconst (v := 0) hx hb dX11_letTickGo_1 (by decide) ?_
  refine cl_i (wr := [(xc13 cy xh xq), (xc21 cy xh xq), (xc44 cy xh xq)]) (va_runV (As := [.int 0]) (rest := []) ⟨hx, hb, hml, hown, hts⟩ (c_causeAt_0 l D cy xh xq nw _) (cwV 1 hts gX11_letTickGo_X11_causeAt rfl rfl rfl (by decide +kernel) ⟨(Nat.le_of_ble_eq_true rfl), (Nat.le_of_ble_eq_true rfl)⟩) (pre_V hKX hP hD (ci := 11) (q0 := 0) rfl rfl [0, 1, 2, 3] rfl (by decide) rfl) rfl rfl hl.1 rfl (lv_room (Nat.le_of_ble_eq_true rfl)) dX11_letTickGo_2 ⟨(Nat.le_of_ble_eq_true rfl), (Nat.le_of_ble_eq_true rfl)⟩) hP hD hS hA [0, 1, 2, 3] [4, 5, 6] rfl rfl (by decide) (by decide) (fun u1 H locs _ hP hD hS => ?_)
  have hP : va_P D vwCl [(xc13 cy xh xq), (xc21 cy xh xq), (xc44 cy xh xq), (xh, .inr (11, [.ref (xq 0), .ref (xq 23), .ref (xq 38), .ref (xq 39), .ref (xq 42), .ref (xq 43), .null, .null, .int 0, .int 0, .int nw, .int 0, .int 0, .int (-1), .int 0, .int 0, .int 5, .int 100])), (xc1 cy xh xq), (xc2 cy xh xq), (xc10 cy xh xq)] H := hP
  have hD : va_D A [(xc13 cy xh xq), (xc21 cy xh xq), (xc44 cy xh xq), (xh, .inr (11, [.ref (xq 0), .ref (xq 23), .ref (xq 38), .ref (xq 39), .ref (xq 42), .ref (xq 43), .null, .null, .int 0, .int 0, .int nw, .int 0, .int 0, .int (-1), .int 0, .int 0, .int 5, .int 100])), (xc1 cy xh xq), (xc2 cy xh xq), (xc10 cy xh xq)] := hD
  refine lv_istore_n (lv' := [(1, .int 1), (0, .ref xh)]) hx hb dX11_letTickGo_5 rfl hl (by decide) rfl (fun ls hl => ?_)
  refine lv_aload_n hx hb dX11_letTickGo_6 rfl (lv_at hl 1 rfl) ?_
  refine lv_iconst (v := 1) hx hb dX11_letTickGo_7 (by decide) ?_
  refine cl_i (wr := [(xc44 cy xh xq), (xc2 cy xh xq), (xc10 cy xh xq)]) (va_runV (As := [.int 1]) (rest := []) ⟨hx, hb, hml, hown, hts⟩ (c_causeAt_1 l D cy xh xq nw _) (cwV 1 hts gX11_letTickGo_X11_causeAt rfl rfl rfl (by decide +kernel) ⟨(Nat.le_of_ble_eq_true rfl), (Nat.le_of_ble_eq_true rfl)⟩) (pre_V hKX hP hD (ci := 11) (q0 := 3) rfl rfl [3, 4, 0, 1] rfl (by decide) rfl) rfl rfl hl.1 rfl (lv_room (Nat.le_of_ble_eq_true rfl)) dX11_letTickGo_8 ⟨(Nat.le_of_ble_eq_true rfl), (Nat.le_of_ble_eq_true rfl)⟩) hP hD hS hA [3, 4, 0, 1] [2, 5, 6] rfl rfl (by decide) (by decide) (fun u2 H locs _ hP hD hS => ?_)
  have hP : va_P D vwCl [(xc44 cy xh xq), (xc2 cy xh xq), (xc10 cy xh xq), (xh, .inr (11, [.ref (xq 0), .ref (xq 23), .ref (xq 38), .ref (xq 39), .ref (xq 42), .ref (xq 43), .null, .null, .int 0, .int 0, .int nw, .int 0, .int 0, .int (-1), .int 0, .int 0, .int 5, .int 100])), (xc1 cy xh xq), (xc13 cy xh xq), (xc21 cy xh xq)] H := hP
  have hD : va_D A [(xc44 cy xh xq), (xc2 cy xh xq), (xc10 cy xh xq), (xh, .inr (11, [.ref (xq 0), .ref (xq 23), .ref (xq 38), .ref (xq 39), .ref (xq 42), .ref (xq 43), .null, .null, .int 0, .int 0, .int nw, .int 0, .int 0, .int (-1), .int 0, .int 0, .int 5, .int 100])), (xc1 cy xh xq), (xc13 cy xh xq), (xc21 cy xh xq)] := hD
  refine lv_istore_n (lv' := [(2, .int 1), (1, .int 1), (0, .ref xh)]) hx hb dX11_letTickGo_11 rfl hl (by decide) rfl (fun ls hl => ?_)
  refine lv_aload_n hx hb dX11_letTickGo_12 rfl (lv_at hl 2 rfl) ?_
  refine cl_q (wr := [(xc2 cy xh xq), (xc10 cy xh xq), (xc1 cy xh xq), (xc13 cy xh xq), (xc21 cy xh xq)]) (va_runV (As := []) (rest := []) ⟨hx, hb, hml, hown, hts⟩ (c_inForce l D cy xh xq nw _) (cwV 0 hts gX11_letTickGo_X11_agreementInForce rfl rfl rfl (by decide +kernel) ⟨(Nat.le_of_ble_eq_true rfl), (Nat.le_of_ble_eq_true rfl)⟩) (pre_V hKX hP hD (ci := 11) (q0 := 3) rfl rfl [3, 0] rfl (by decide) rfl) rfl rfl hl.1 rfl (lv_room (Nat.le_of_ble_eq_true rfl)) dX11_letTickGo_13 ⟨(Nat.le_of_ble_eq_true rfl), (Nat.le_of_ble_eq_true rfl)⟩) hP hD hS hA [3, 0] [1, 2, 4, 5, 6] rfl rfl (by decide) (by decide) (fun u3 H locs _ hP hD hS => ?_)
  have hP : va_P D vwCl [(xc2 cy xh xq), (xc10 cy xh xq), (xc1 cy xh xq), (xc13 cy xh xq), (xc21 cy xh xq), (xh, .inr (11, [.ref (xq 0), .ref (xq 23), .ref (xq 38), .ref (xq 39), .ref (xq 42), .ref (xq 43), .null, .null, .int 0, .int 0, .int nw, .int 0, .int 0, .int (-1), .int 0, .int 0, .int 5, .int 100])), (xc44 cy xh xq)] H := hP
  have hD : va_D A [(xc2 cy xh xq), (xc10 cy xh xq), (xc1 cy xh xq), (xc13 cy xh xq), (xc21 cy xh xq), (xh, .inr (11, [.ref (xq 0), .ref (xq 23), .ref (xq 38), .ref (xq 39), .ref (xq 42), .ref (xq 43), .null, .null, .int 0, .int 0, .int nw, .int 0, .int 0, .int (-1), .int 0, .int 0, .int 5, .int 100])), (xc44 cy xh xq)] := hD
  refine lv_csv (.null) rfl ?_
  refine lv_astore_nN (lv' := [(3, .null), (2, .int 1), (1, .int 1), (0, .ref xh)]) hx hb dX11_letTickGo_16 rfl hl (by decide) rfl (fun ls hl => ?_)
  refine lv_iconst (v := 0) hx hb dX11_letTickGo_17 (by decide) ?_
  refine lv_istore (lv' := [(4, .int 0), (3, .null), (2, .int 1), (1, .int 1), (0, .ref xh)]) hx hb dX11_letTickGo_18 hl (by decide) rfl (fun ls hl => ?_)
  refine lv_iload hx hb dX11_letTickGo_20 (lv_at hl 0 rfl) ?_
  refine lv_aload_n hx hb dX11_letTickGo_22 rfl (lv_at hl 4 rfl) ?_
  refine va_get (D := D) (ci := 11) (v := .int 0) (C := RX11) (T := TX11) (N := 18) hx hb hts iw_X11_letTickGo_X11 hown hKX.1 hP 5 rfl rfl 9 (by decide) (hts (.fieldLink RX11 63 "TrainFerry" "wagonsCome" "I") (by decide +kernel)) (fun _ h9 => h9) rfl dX11_letTickGo_23 ?_
  refine lv_icmp_ge (tgt := 76) hx hb dX11_letTickGo_26 (by decide) (fun _ => ?_) (fun c9 => absurd (by decide) c9)
  refine lv_aload_n hx hb dX11_letTickGo_76 rfl (lv_at hl 4 rfl) ?_
  refine lv_dup hx hb dX11_letTickGo_77 rfl ?_
  refine va_get (D := D) (ci := 11) (v := .int nw) (C := RX11) (T := TX11) (N := 18) hx hb hts iw_X11_letTickGo_X11 hown hKX.1 hP 5 rfl rfl 10 (by decide) (hts (.fieldLink RX11 67 "TrainFerry" "now" "I") (by decide +kernel)) (fun _ h9 => h9) rfl dX11_letTickGo_78 ?_
  refine lv_iconst (v := 1) hx hb dX11_letTickGo_81 (by decide) ?_
  refine lv_iadd hx hb dX11_letTickGo_82 ?_
  refine va_put (D := D) (ci := 11) (v := .int (nw + 1)) (ty := .int) (C := RX11) (T := TX11) (N := 18) hx hb hts iw_X11_letTickGo_X11 tyX11 tyX11_ok nmX11 hown hKX.1 hP hD hS 5 rfl rfl 10 (by decide) (hts (.fieldLink RX11 67 "TrainFerry" "now" "I") (by decide +kernel)) (fun _ h9 => h9) rfl (by decide +kernel) rfl rfl (Nat.le_of_ble_eq_true rfl) dX11_letTickGo_83 (fun H locs hP hD hS => ?_)
  have hP : va_P D vwCl [(xc2 cy xh xq), (xc10 cy xh xq), (xc1 cy xh xq), (xc13 cy xh xq), (xc21 cy xh xq), (xh, .inr (11, [.ref (xq 0), .ref (xq 23), .ref (xq 38), .ref (xq 39), .ref (xq 42), .ref (xq 43), .null, .null, .int 0, .int 0, .int (nw + 1), .int 0, .int 0, .int (-1), .int 0, .int 0, .int 5, .int 100])), (xc44 cy xh xq)] H := hP
  have hD : va_D A [(xc2 cy xh xq), (xc10 cy xh xq), (xc1 cy xh xq), (xc13 cy xh xq), (xc21 cy xh xq), (xh, .inr (11, [.ref (xq 0), .ref (xq 23), .ref (xq 38), .ref (xq 39), .ref (xq 42), .ref (xq 43), .null, .null, .int 0, .int 0, .int (nw + 1), .int 0, .int 0, .int (-1), .int 0, .int 0, .int 5, .int 100])), (xc44 cy xh xq)] := hD
  refine lv_aload_n hx hb dX11_letTickGo_86 rfl (lv_at hl 4 rfl) ?_
  refine va_get (D := D) (ci := 11) (v := .int 0) (C := RX11) (T := TX11) (N := 18) hx hb hts iw_X11_letTickGo_X11 hown hKX.1 hP 5 rfl rfl 11 (by decide) (hts (.fieldLink RX11 70 "TrainFerry" "ferryAt" "I") (by decide +kernel)) (fun _ h9 => h9) rfl dX11_letTickGo_87 ?_
  refine lv_iconst (v := 2) hx hb dX11_letTickGo_90 (by decide) ?_
  refine lv_icmp_ne (tgt := 118) hx hb dX11_letTickGo_91 (by decide) (fun _ => ?_) (fun c9 => absurd c9 (by decide))
  exact en_v hx hb hr hlocks () trivial (hP.sub [0, 1, 2, 3, 4, 5, 6] rfl) (hD.sub [0, 1, 2, 3, 4, 5, 6] (by decide) rfl) hS (Nat.le_of_ble_eq_true rfl) (Nat.le_of_ble_eq_true rfl) dX11_letTickGo_118
theorem iw_X11_ticks_X11 : ∀ w ∈ wsX110, w ∈ wsX11_ticks := by decide +kernel
set_option maxHeartbeats 4000000 in
set_option maxRecDepth 100000 in
theorem c_ticks (l : Launch) (D : va_G) (cy : Nat → ClassId) (xh : Nat) (xq : Nat → Nat) (n : Int32) (sz : Nat) : Met l yX11_ticks wsX11_ticks ({ frames := 4, cells := 0, slots := 0, locals := 91 }) (wPre D cy [.ref xh, .int n] sz [(xc0 cy xh xq), (xc1 cy xh xq), (xc2 cy xh xq), (xc10 cy xh xq), (xc13 cy xh xq), (xc21 cy xh xq), (xc44 cy xh xq)]) (wQi D (fTicks n) (fun _ : Unit => True) (fun _u : Unit => []) (va_A [(xc0 cy xh xq), (xc1 cy xh xq), (xc2 cy xh xq), (xc10 cy xh xq), (xc13 cy xh xq), (xc21 cy xh xq), (xc44 cy xh xq)] sz)) 0 0 (va_A [(xc0 cy xh xq), (xc1 cy xh xq), (xc2 cy xh xq), (xc10 cy xh xq), (xc13 cy xh xq), (xc21 cy xh xq), (xc44 cy xh xq)] sz) := by
  refine met_go (y := yX11_ticks) (ws := wsX11_ticks) (av := [.ref xh, .int n]) (cc := cX11_ticks) (maxL := 3) (ret := (some .int)) (Qc := fun A => wQi D (fTicks n) (fun _ : Unit => True) (fun _u : Unit => []) A) (by decide) rfl (Nat.le_of_ble_eq_true rfl) ?_
  intro p e s m below meth c ls A hx hb hr hml hown hts hlocks hname hKX hP hD hA hS hl
  have hown : s.vm.findClass RX11 = some m.cls := hown
  have hl : lv_has ls 3 [(0, .ref xh), (1, .int n)] := hl
  refine lv_iload_n hx hb dX11_ticks_0 rfl (lv_at hl 1 rfl) ?_
  refine lv_iconst (v := 1) hx hb dX11_ticks_1 (by decide) ?_
  refine lv_sipush (v := 200) hx hb dX11_ticks_2 (by decide) ?_
  refine cl_i (wr := [(xc0 cy xh xq), (xc1 cy xh xq), (xc2 cy xh xq), (xc10 cy xh xq), (xc13 cy xh xq), (xc21 cy xh xq), (xc44 cy xh xq)]) (va_runS (As := [.int n, .int 1, .int 200]) (rest := []) ⟨hx, hb, hml, hown, hts⟩ (c_isWithin l D cy n 1 200 _) (va_cwS 3 hts gX11_ticks_X11_isWithin rfl rfl rfl (by decide +kernel) ⟨(Nat.le_of_ble_eq_true rfl), (Nat.le_of_ble_eq_true rfl)⟩) (pre_S hKX hP hD [] rfl (by decide) rfl) rfl rfl hl.1 rfl (lv_room (Nat.le_of_ble_eq_true rfl)) dX11_ticks_5 ⟨(Nat.le_of_ble_eq_true rfl), (Nat.le_of_ble_eq_true rfl)⟩) hP hD hS hA [] [0, 1, 2, 3, 4, 5, 6] rfl rfl (by decide) (by decide) (fun u1 H locs _ hP hD hS => ?_)
  have hP : va_P D vwCl [(xc0 cy xh xq), (xc1 cy xh xq), (xc2 cy xh xq), (xc10 cy xh xq), (xc13 cy xh xq), (xc21 cy xh xq), (xc44 cy xh xq)] H := hP
  have hD : va_D A [(xc0 cy xh xq), (xc1 cy xh xq), (xc2 cy xh xq), (xc10 cy xh xq), (xc13 cy xh xq), (xc21 cy xh xq), (xc44 cy xh xq)] := hD
  refine lv_if_ne (tgt := 13) hx hb dX11_ticks_8 (by decide) (fun c2 => ?_) (fun c2 => ?_)
  · refine lv_iconst (v := 0) hx hb dX11_ticks_13 (by decide) ?_
    refine lv_istore_n (lv' := [(2, .int 0), (0, .ref xh), (1, .int n)]) hx hb dX11_ticks_14 rfl hl (by decide) rfl (fun ls hl => ?_)
    obtain ⟨N, hN1, hN2, rfl⟩ := wi_nat (x := n) (lo := 1) (hi := 200) (by decide) (by decide) c2
    have loop : ∀ (k j : Nat) (H : Heap) (locs : List Loc) (ls : Array Slot), j + k = N → va_P D vwCl [(xh, .inr (11, [.ref (xq 0), .ref (xq 23), .ref (xq 38), .ref (xq 39), .ref (xq 42), .ref (xq 43), .null, .null, .int 0, .int 0, .int (nI j), .int 0, .int 0, .int (-1), .int 0, .int 0, .int 5, .int 100])), (xc1 cy xh xq), (xc2 cy xh xq), (xc10 cy xh xq), (xc13 cy xh xq), (xc21 cy xh xq), (xc44 cy xh xq)] H → va_D A [(xh, .inr (11, [.ref (xq 0), .ref (xq 23), .ref (xq 38), .ref (xq 39), .ref (xq 42), .ref (xq 43), .null, .null, .int 0, .int 0, .int (nI j), .int 0, .int 0, .int (-1), .int 0, .int 0, .int 5, .int 100])), (xc1 cy xh xq), (xc2 cy xh xq), (xc10 cy xh xq), (xc13 cy xh xq), (xc21 cy xh xq), (xc44 cy xh xq)] → va_S A s.heap H locs → lv_has ls 3 [(2, .int (nI j)), (0, .ref xh), (1, .int (nI N))] → W p l e (headSpec wsX11_ticks ({ frames := 4, cells := 0, slots := 0, locals := 91 })).room s m ([.ref xh, .int (nI N)] : List Value).toArray below meth c H locs 0 0 (MQ below (wQi D (fTicks (nI N)) (fun _ : Unit => True) (fun _u : Unit => []) A) ([.ref xh, .int (nI N)] : List Value).toArray s 0 0 A) (F0 m 15 ls []) := by
      intro k
      induction k with
      | zero =>
        intro j H locs ls hj hP hD hS hl
        obtain rfl : j = N := by omega
        refine lv_iload_n hx hb dX11_ticks_15 rfl (lv_at hl 0 rfl) ?_
        refine lv_iload_n hx hb dX11_ticks_16 rfl (lv_at hl 2 rfl) ?_
        refine lv_icmp_ge (tgt := 30) hx hb dX11_ticks_17 (by decide) (fun _ => ?_) (fun c9 => absurd (nI_le (Nat.le_refl j) (by omega)) c9)
        refine lv_aload_n hx hb dX11_ticks_30 rfl (lv_at hl 1 rfl) ?_
        refine va_get (D := D) (ci := 11) (v := .int (nI j)) (C := RX11) (T := TX11) (N := 18) hx hb hts iw_X11_ticks_X11 hown hKX.1 hP 0 rfl rfl 10 (by decide) (hts (.fieldLink RX11 67 "TrainFerry" "now" "I") (by decide +kernel)) (fun _ h9 => h9) rfl dX11_ticks_31 ?_
        exact en_i hx hb hr hlocks () (by simp [fTicks, c2]) trivial (hP.sub [] rfl) (hD.sub [] (by decide) rfl) hS (Nat.le_of_ble_eq_true rfl) (Nat.le_of_ble_eq_true rfl) dX11_ticks_34
      | succ k ih =>
        intro j H locs ls hj hP hD hS hl
        refine lv_iload_n hx hb dX11_ticks_15 rfl (lv_at hl 0 rfl) ?_
        refine lv_iload_n hx hb dX11_ticks_16 rfl (lv_at hl 2 rfl) ?_
        refine lv_icmp_ge (tgt := 30) hx hb dX11_ticks_17 (by decide) (fun c9 => absurd c9 (nI_ge (by omega) (by omega))) (fun _ => ?_)
        refine lv_aload_n hx hb dX11_ticks_20 rfl (lv_at hl 1 rfl) ?_
        refine cl_v (wr := []) (va_runV (As := []) (rest := []) ⟨hx, hb, hml, hown, hts⟩ (c_letTickGo l D cy xh xq (nI j) _) (cwV 0 hts gX11_ticks_X11_letTickGo rfl rfl rfl (by decide +kernel) ⟨(Nat.le_of_ble_eq_true rfl), (Nat.le_of_ble_eq_true rfl)⟩) (pre_V hKX hP hD (ci := 11) (q0 := 0) rfl rfl [0, 1, 2, 3, 4, 5, 6] rfl (by decide) rfl) rfl rfl hl.1 rfl (lv_room (Nat.le_of_ble_eq_true rfl)) dX11_ticks_21 ⟨(Nat.le_of_ble_eq_true rfl), (Nat.le_of_ble_eq_true rfl)⟩) hP hD hS hA [0, 1, 2, 3, 4, 5, 6] [] rfl rfl (by decide) (by decide) (fun u3 H locs _ hP hD hS => ?_)
        have hP : va_P D vwCl [(xc2 cy xh xq), (xc10 cy xh xq), (xc1 cy xh xq), (xc13 cy xh xq), (xc21 cy xh xq), (xh, .inr (11, [.ref (xq 0), .ref (xq 23), .ref (xq 38), .ref (xq 39), .ref (xq 42), .ref (xq 43), .null, .null, .int 0, .int 0, .int ((nI j) + 1), .int 0, .int 0, .int (-1), .int 0, .int 0, .int 5, .int 100])), (xc44 cy xh xq)] H := hP
        have hD : va_D A [(xc2 cy xh xq), (xc10 cy xh xq), (xc1 cy xh xq), (xc13 cy xh xq), (xc21 cy xh xq), (xh, .inr (11, [.ref (xq 0), .ref (xq 23), .ref (xq 38), .ref (xq 39), .ref (xq 42), .ref (xq 43), .null, .null, .int 0, .int 0, .int ((nI j) + 1), .int 0, .int 0, .int (-1), .int 0, .int 0, .int 5, .int 100])), (xc44 cy xh xq)] := hD
        refine lv_iinc (v := ((nI j) + 1)) (lv' := [(2, .int ((nI j) + 1)), (0, .ref xh), (1, .int (nI N))]) hx hb dX11_ticks_24 hl (k := 0) rfl (by rfl) (by decide) rfl (fun ls hl => ?_)
        refine lv_goto (tgt := 15) hx hb dX11_ticks_27 (by decide) ?_
        rw [nI_1] at hP hD hl
        refine W.widen (k := 0) (n := 0) (by decide) (by decide) ?_
        exact ih (j + 1) _ _ _ (by omega) (hP.sub [5, 2, 0, 1, 3, 4, 6] rfl) (hD.sub [5, 2, 0, 1, 3, 4, 6] (by decide) rfl) hS (lv_sub hl [0, 1, 2] rfl)
    exact loop N 0 _ _ _ (by omega) (hP.sub [0, 1, 2, 3, 4, 5, 6] rfl) (hD.sub [0, 1, 2, 3, 4, 5, 6] (by decide) rfl) hS (lv_sub hl [0, 1, 2] rfl)
  · refine lv_iconst (v := (-1)) hx hb dX11_ticks_11 (by decide) ?_
    exact en_i hx hb hr hlocks () (by simp [fTicks, c2]) trivial (hP.sub [] rfl) (hD.sub [] (by decide) rfl) hS (Nat.le_of_ble_eq_true rfl) (Nat.le_of_ble_eq_true rfl) dX11_ticks_12
