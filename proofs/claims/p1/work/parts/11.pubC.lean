theorem iw_X2_lastOf_X2 : ∀ w ∈ wsX20, w ∈ wsX2_lastOf := by decide +kernel
theorem iw_X2_lastOf_X5 : ∀ w ∈ wsX50, w ∈ wsX2_lastOf := by decide +kernel
set_option maxHeartbeats 4000000 in
set_option maxRecDepth 100000 in
theorem c_lastOf_0 (l : Launch) (D : va_G) (cy : Nat → ClassId) (xh : Nat) (xq : Nat → Nat) (sz : Nat) : Met l yX2_lastOf wsX2_lastOf ({ frames := 2, cells := 0, slots := 0, locals := 43 }) (wPre D cy [.ref (xq 23), .int 0] sz [(xc24 cy xh xq), (xc25 cy xh xq), (xc26 cy xh xq)]) (wQq D (fun _u : Unit => none) (fun _ : Unit => True) (fun _u : Unit => [(xc24 cy xh xq), (xc25 cy xh xq), (xc26 cy xh xq)]) (va_A [(xc24 cy xh xq), (xc25 cy xh xq), (xc26 cy xh xq)] sz)) 0 0 (va_A [(xc24 cy xh xq), (xc25 cy xh xq), (xc26 cy xh xq)] sz) := by
  refine met_go (y := yX2_lastOf) (ws := wsX2_lastOf) (av := [.ref (xq 23), .int 0]) (cc := cX2_lastOf) (maxL := 2) (ret := (some (.object "TrainFerry$Wagon"))) (Qc := fun A => wQq D (fun _u : Unit => none) (fun _ : Unit => True) (fun _u : Unit => [(xc24 cy xh xq), (xc25 cy xh xq), (xc26 cy xh xq)]) A) (by decide) rfl (Nat.le_of_ble_eq_true rfl) ?_
  intro p e s m below meth c ls A hx hb hr hml hown hts hlocks hname hKX hP hD hA hS hl
  have hown : s.vm.findClass RX2 = some m.cls := hown
  have hl : lv_has ls 2 [(0, .ref (xq 23)), (1, .int 0)] := hl
  refine lv_iload_n hx hb dX2_lastOf_0 rfl (lv_at hl 1 rfl) ?_
  refine cl_i (wr := [(xc24 cy xh xq), (xc25 cy xh xq), (xc26 cy xh xq)]) (va_runSN (As := [.int 0]) (rest := []) ⟨hx, hb, hml, hown, hts⟩ (c_isDeckTrack l D cy 0 _) ⟨va_cnB 1 hts gX2_lastOf_X11_isDeckTrack_n34 rfl rfl rfl (hKX.2.1 (.methodLinkNest RX2 34 yX11_isDeckTrack RX11) (by decide +kernel)) (hts (.initialized RX11) (by decide +kernel)) (by decide +kernel) ⟨(Nat.le_of_ble_eq_true rfl), (Nat.le_of_ble_eq_true rfl)⟩, hts (.static yX11_isDeckTrack) (by decide +kernel), trivial⟩ (pre_S hKX hP hD [] rfl (by decide) rfl) rfl rfl hl.1 rfl (lv_room (Nat.le_of_ble_eq_true rfl)) dX2_lastOf_1 ⟨(Nat.le_of_ble_eq_true rfl), (Nat.le_of_ble_eq_true rfl)⟩) hP hD hS hA [] [0, 1, 2] rfl rfl (by decide) (by decide) (fun u1 H locs _ hP hD hS => ?_)
  have hP : va_P D vwCl [(xc24 cy xh xq), (xc25 cy xh xq), (xc26 cy xh xq)] H := hP
  have hD : va_D A [(xc24 cy xh xq), (xc25 cy xh xq), (xc26 cy xh xq)] := hD
  refine lv_cst 1 (by decide) ?_
  refine lv_if_eq (tgt := 30) hx hb dX2_lastOf_4 (by decide) (fun c9 => absurd c9 (by decide)) (fun _ => ?_)
  refine lv_aload_n hx hb dX2_lastOf_7 rfl (lv_at hl 0 rfl) ?_
  refine va_get (D := D) (ci := 2) (v := .ref (xq 24)) (C := RX2) (T := TX2) (N := 2) hx hb hts iw_X2_lastOf_X2 hown hKX.1 hP 0 rfl rfl 0 (by decide) (hts (.fieldLink RX2 14 "TrainFerry$Deck" "rows" "[LTrainFerry$Row;") (by decide +kernel)) (fun _ h9 => h9) rfl dX2_lastOf_8 ?_
  refine lv_iload_n hx hb dX2_lastOf_11 rfl (lv_at hl 1 rfl) ?_
  refine va_aldq hx hb hKX.1 hP 1 4 rfl rfl (vind (by decide)) dX2_lastOf_12 ?_
  refine lv_csv (.ref (xq 25)) rfl ?_
  refine lv_aload_n hx hb dX2_lastOf_13 rfl (lv_at hl 0 rfl) ?_
  refine va_get (D := D) (ci := 2) (v := .ref (xq 24)) (C := RX2) (T := TX2) (N := 2) hx hb hts iw_X2_lastOf_X2 hown hKX.1 hP 0 rfl rfl 0 (by decide) (hts (.fieldLink RX2 14 "TrainFerry$Deck" "rows" "[LTrainFerry$Row;") (by decide +kernel)) (fun _ h9 => h9) rfl dX2_lastOf_14 ?_
  refine lv_iload_n hx hb dX2_lastOf_17 rfl (lv_at hl 1 rfl) ?_
  refine va_aldq hx hb hKX.1 hP 1 4 rfl rfl (vind (by decide)) dX2_lastOf_18 ?_
  refine lv_csv (.ref (xq 25)) rfl ?_
  refine va_get (D := D) (ci := 5) (v := .int 0) (C := RX5) (T := TX5) (N := 3) hx hb hts iw_X2_lastOf_X5 hown hKX.1 hP 2 rfl rfl 1 (by decide) (hts (.fieldLink RX2 38 "TrainFerry$Row" "size" "I") (by decide +kernel)) (fun _ h9 => h9) rfl dX2_lastOf_19 ?_
  refine lv_iconst (v := 1) hx hb dX2_lastOf_22 (by decide) ?_
  refine lv_isub hx hb dX2_lastOf_23 ?_
  refine lv_cst (-1) (by decide) ?_
  refine cl_q (wr := [(xc24 cy xh xq), (xc25 cy xh xq)]) (va_runV (As := [.int (-1)]) (rest := []) ⟨hx, hb, hml, hown, hts⟩ (c_wagonAt l D cy (xq 25) (xq 26) (-1) _) (cwV 1 hts gX2_lastOf_X5_wagonAt rfl rfl rfl (by decide +kernel) ⟨(Nat.le_of_ble_eq_true rfl), (Nat.le_of_ble_eq_true rfl)⟩) (pre_V hKX hP hD (ci := 5) (q0 := 2) rfl rfl [2] rfl (by decide) rfl) rfl rfl hl.1 rfl (lv_room (Nat.le_of_ble_eq_true rfl)) dX2_lastOf_24 ⟨(Nat.le_of_ble_eq_true rfl), (Nat.le_of_ble_eq_true rfl)⟩) hP hD hS hA [2] [0, 1] rfl rfl (by decide) (by decide) (fun u2 H locs _ hP hD hS => ?_)
  have hP : va_P D vwCl [(xc24 cy xh xq), (xc25 cy xh xq), ((xq 25), .inr (5, [.ref (xq 26), .int 0, .int 0]))] H := hP
  have hD : va_D A [(xc24 cy xh xq), (xc25 cy xh xq), ((xq 25), .inr (5, [.ref (xq 26), .int 0, .int 0]))] := hD
  refine lv_csv (.null) rfl ?_
  refine lv_goto (tgt := 31) hx hb dX2_lastOf_27 (by decide) ?_
  exact en_q (v' := none) hx hb hr (Or.inl ⟨_, rfl⟩) hlocks rfl () rfl trivial (hP.sub [0, 1, 2] rfl) (hD.sub [0, 1, 2] (by decide) rfl) hS (Nat.le_of_ble_eq_true rfl) (Nat.le_of_ble_eq_true rfl) dX2_lastOf_31
set_option maxHeartbeats 4000000 in
set_option maxRecDepth 100000 in
theorem c_lastOf_1 (l : Launch) (D : va_G) (cy : Nat → ClassId) (xh : Nat) (xq : Nat → Nat) (sz : Nat) : Met l yX2_lastOf wsX2_lastOf ({ frames := 2, cells := 0, slots := 0, locals := 43 }) (wPre D cy [.ref (xq 23), .int 1] sz [(xc24 cy xh xq), (xc25 cy xh xq), (xc28 cy xh xq)]) (wQq D (fun _u : Unit => none) (fun _ : Unit => True) (fun _u : Unit => [(xc24 cy xh xq), (xc25 cy xh xq), (xc28 cy xh xq)]) (va_A [(xc24 cy xh xq), (xc25 cy xh xq), (xc28 cy xh xq)] sz)) 0 0 (va_A [(xc24 cy xh xq), (xc25 cy xh xq), (xc28 cy xh xq)] sz) := by
  refine met_go (y := yX2_lastOf) (ws := wsX2_lastOf) (av := [.ref (xq 23), .int 1]) (cc := cX2_lastOf) (maxL := 2) (ret := (some (.object "TrainFerry$Wagon"))) (Qc := fun A => wQq D (fun _u : Unit => none) (fun _ : Unit => True) (fun _u : Unit => [(xc24 cy xh xq), (xc25 cy xh xq), (xc28 cy xh xq)]) A) (by decide) rfl (Nat.le_of_ble_eq_true rfl) ?_
  intro p e s m below meth c ls A hx hb hr hml hown hts hlocks hname hKX hP hD hA hS hl
  have hown : s.vm.findClass RX2 = some m.cls := hown
  have hl : lv_has ls 2 [(0, .ref (xq 23)), (1, .int 1)] := hl
  refine lv_iload_n hx hb dX2_lastOf_0 rfl (lv_at hl 1 rfl) ?_
  refine cl_i (wr := [(xc24 cy xh xq), (xc25 cy xh xq), (xc28 cy xh xq)]) (va_runSN (As := [.int 1]) (rest := []) ⟨hx, hb, hml, hown, hts⟩ (c_isDeckTrack l D cy 1 _) ⟨va_cnB 1 hts gX2_lastOf_X11_isDeckTrack_n34 rfl rfl rfl (hKX.2.1 (.methodLinkNest RX2 34 yX11_isDeckTrack RX11) (by decide +kernel)) (hts (.initialized RX11) (by decide +kernel)) (by decide +kernel) ⟨(Nat.le_of_ble_eq_true rfl), (Nat.le_of_ble_eq_true rfl)⟩, hts (.static yX11_isDeckTrack) (by decide +kernel), trivial⟩ (pre_S hKX hP hD [] rfl (by decide) rfl) rfl rfl hl.1 rfl (lv_room (Nat.le_of_ble_eq_true rfl)) dX2_lastOf_1 ⟨(Nat.le_of_ble_eq_true rfl), (Nat.le_of_ble_eq_true rfl)⟩) hP hD hS hA [] [0, 1, 2] rfl rfl (by decide) (by decide) (fun u1 H locs _ hP hD hS => ?_)
  have hP : va_P D vwCl [(xc24 cy xh xq), (xc25 cy xh xq), (xc28 cy xh xq)] H := hP
  have hD : va_D A [(xc24 cy xh xq), (xc25 cy xh xq), (xc28 cy xh xq)] := hD
  refine lv_cst 1 (by decide) ?_
  refine lv_if_eq (tgt := 30) hx hb dX2_lastOf_4 (by decide) (fun c9 => absurd c9 (by decide)) (fun _ => ?_)
  refine lv_aload_n hx hb dX2_lastOf_7 rfl (lv_at hl 0 rfl) ?_
  refine va_get (D := D) (ci := 2) (v := .ref (xq 24)) (C := RX2) (T := TX2) (N := 2) hx hb hts iw_X2_lastOf_X2 hown hKX.1 hP 0 rfl rfl 0 (by decide) (hts (.fieldLink RX2 14 "TrainFerry$Deck" "rows" "[LTrainFerry$Row;") (by decide +kernel)) (fun _ h9 => h9) rfl dX2_lastOf_8 ?_
  refine lv_iload_n hx hb dX2_lastOf_11 rfl (lv_at hl 1 rfl) ?_
  refine va_aldq hx hb hKX.1 hP 1 4 rfl rfl (vind (by decide)) dX2_lastOf_12 ?_
  refine lv_csv (.ref (xq 27)) rfl ?_
  refine lv_aload_n hx hb dX2_lastOf_13 rfl (lv_at hl 0 rfl) ?_
  refine va_get (D := D) (ci := 2) (v := .ref (xq 24)) (C := RX2) (T := TX2) (N := 2) hx hb hts iw_X2_lastOf_X2 hown hKX.1 hP 0 rfl rfl 0 (by decide) (hts (.fieldLink RX2 14 "TrainFerry$Deck" "rows" "[LTrainFerry$Row;") (by decide +kernel)) (fun _ h9 => h9) rfl dX2_lastOf_14 ?_
  refine lv_iload_n hx hb dX2_lastOf_17 rfl (lv_at hl 1 rfl) ?_
  refine va_aldq hx hb hKX.1 hP 1 4 rfl rfl (vind (by decide)) dX2_lastOf_18 ?_
  refine lv_csv (.ref (xq 27)) rfl ?_
  refine va_get (D := D) (ci := 5) (v := .int 0) (C := RX5) (T := TX5) (N := 3) hx hb hts iw_X2_lastOf_X5 hown hKX.1 hP 2 rfl rfl 1 (by decide) (hts (.fieldLink RX2 38 "TrainFerry$Row" "size" "I") (by decide +kernel)) (fun _ h9 => h9) rfl dX2_lastOf_19 ?_
  refine lv_iconst (v := 1) hx hb dX2_lastOf_22 (by decide) ?_
  refine lv_isub hx hb dX2_lastOf_23 ?_
  refine lv_cst (-1) (by decide) ?_
  refine cl_q (wr := [(xc24 cy xh xq), (xc25 cy xh xq)]) (va_runV (As := [.int (-1)]) (rest := []) ⟨hx, hb, hml, hown, hts⟩ (c_wagonAt l D cy (xq 27) (xq 28) (-1) _) (cwV 1 hts gX2_lastOf_X5_wagonAt rfl rfl rfl (by decide +kernel) ⟨(Nat.le_of_ble_eq_true rfl), (Nat.le_of_ble_eq_true rfl)⟩) (pre_V hKX hP hD (ci := 5) (q0 := 2) rfl rfl [2] rfl (by decide) rfl) rfl rfl hl.1 rfl (lv_room (Nat.le_of_ble_eq_true rfl)) dX2_lastOf_24 ⟨(Nat.le_of_ble_eq_true rfl), (Nat.le_of_ble_eq_true rfl)⟩) hP hD hS hA [2] [0, 1] rfl rfl (by decide) (by decide) (fun u2 H locs _ hP hD hS => ?_)
  have hP : va_P D vwCl [(xc24 cy xh xq), (xc25 cy xh xq), ((xq 27), .inr (5, [.ref (xq 28), .int 0, .int 0]))] H := hP
  have hD : va_D A [(xc24 cy xh xq), (xc25 cy xh xq), ((xq 27), .inr (5, [.ref (xq 28), .int 0, .int 0]))] := hD
  refine lv_csv (.null) rfl ?_
  refine lv_goto (tgt := 31) hx hb dX2_lastOf_27 (by decide) ?_
  exact en_q (v' := none) hx hb hr (Or.inl ⟨_, rfl⟩) hlocks rfl () rfl trivial (hP.sub [0, 1, 2] rfl) (hD.sub [0, 1, 2] (by decide) rfl) hS (Nat.le_of_ble_eq_true rfl) (Nat.le_of_ble_eq_true rfl) dX2_lastOf_31
set_option maxHeartbeats 4000000 in
set_option maxRecDepth 100000 in
theorem c_lastOf_2 (l : Launch) (D : va_G) (cy : Nat → ClassId) (xh : Nat) (xq : Nat → Nat) (sz : Nat) : Met l yX2_lastOf wsX2_lastOf ({ frames := 2, cells := 0, slots := 0, locals := 43 }) (wPre D cy [.ref (xq 23), .int 2] sz [(xc24 cy xh xq), (xc25 cy xh xq), (xc30 cy xh xq)]) (wQq D (fun _u : Unit => none) (fun _ : Unit => True) (fun _u : Unit => [(xc24 cy xh xq), (xc25 cy xh xq), (xc30 cy xh xq)]) (va_A [(xc24 cy xh xq), (xc25 cy xh xq), (xc30 cy xh xq)] sz)) 0 0 (va_A [(xc24 cy xh xq), (xc25 cy xh xq), (xc30 cy xh xq)] sz) := by
  refine met_go (y := yX2_lastOf) (ws := wsX2_lastOf) (av := [.ref (xq 23), .int 2]) (cc := cX2_lastOf) (maxL := 2) (ret := (some (.object "TrainFerry$Wagon"))) (Qc := fun A => wQq D (fun _u : Unit => none) (fun _ : Unit => True) (fun _u : Unit => [(xc24 cy xh xq), (xc25 cy xh xq), (xc30 cy xh xq)]) A) (by decide) rfl (Nat.le_of_ble_eq_true rfl) ?_
  intro p e s m below meth c ls A hx hb hr hml hown hts hlocks hname hKX hP hD hA hS hl
  have hown : s.vm.findClass RX2 = some m.cls := hown
  have hl : lv_has ls 2 [(0, .ref (xq 23)), (1, .int 2)] := hl
  refine lv_iload_n hx hb dX2_lastOf_0 rfl (lv_at hl 1 rfl) ?_
  refine cl_i (wr := [(xc24 cy xh xq), (xc25 cy xh xq), (xc30 cy xh xq)]) (va_runSN (As := [.int 2]) (rest := []) ⟨hx, hb, hml, hown, hts⟩ (c_isDeckTrack l D cy 2 _) ⟨va_cnB 1 hts gX2_lastOf_X11_isDeckTrack_n34 rfl rfl rfl (hKX.2.1 (.methodLinkNest RX2 34 yX11_isDeckTrack RX11) (by decide +kernel)) (hts (.initialized RX11) (by decide +kernel)) (by decide +kernel) ⟨(Nat.le_of_ble_eq_true rfl), (Nat.le_of_ble_eq_true rfl)⟩, hts (.static yX11_isDeckTrack) (by decide +kernel), trivial⟩ (pre_S hKX hP hD [] rfl (by decide) rfl) rfl rfl hl.1 rfl (lv_room (Nat.le_of_ble_eq_true rfl)) dX2_lastOf_1 ⟨(Nat.le_of_ble_eq_true rfl), (Nat.le_of_ble_eq_true rfl)⟩) hP hD hS hA [] [0, 1, 2] rfl rfl (by decide) (by decide) (fun u1 H locs _ hP hD hS => ?_)
  have hP : va_P D vwCl [(xc24 cy xh xq), (xc25 cy xh xq), (xc30 cy xh xq)] H := hP
  have hD : va_D A [(xc24 cy xh xq), (xc25 cy xh xq), (xc30 cy xh xq)] := hD
  refine lv_cst 1 (by decide) ?_
  refine lv_if_eq (tgt := 30) hx hb dX2_lastOf_4 (by decide) (fun c9 => absurd c9 (by decide)) (fun _ => ?_)
  refine lv_aload_n hx hb dX2_lastOf_7 rfl (lv_at hl 0 rfl) ?_
  refine va_get (D := D) (ci := 2) (v := .ref (xq 24)) (C := RX2) (T := TX2) (N := 2) hx hb hts iw_X2_lastOf_X2 hown hKX.1 hP 0 rfl rfl 0 (by decide) (hts (.fieldLink RX2 14 "TrainFerry$Deck" "rows" "[LTrainFerry$Row;") (by decide +kernel)) (fun _ h9 => h9) rfl dX2_lastOf_8 ?_
  refine lv_iload_n hx hb dX2_lastOf_11 rfl (lv_at hl 1 rfl) ?_
  refine va_aldq hx hb hKX.1 hP 1 4 rfl rfl (vind (by decide)) dX2_lastOf_12 ?_
  refine lv_csv (.ref (xq 29)) rfl ?_
  refine lv_aload_n hx hb dX2_lastOf_13 rfl (lv_at hl 0 rfl) ?_
  refine va_get (D := D) (ci := 2) (v := .ref (xq 24)) (C := RX2) (T := TX2) (N := 2) hx hb hts iw_X2_lastOf_X2 hown hKX.1 hP 0 rfl rfl 0 (by decide) (hts (.fieldLink RX2 14 "TrainFerry$Deck" "rows" "[LTrainFerry$Row;") (by decide +kernel)) (fun _ h9 => h9) rfl dX2_lastOf_14 ?_
  refine lv_iload_n hx hb dX2_lastOf_17 rfl (lv_at hl 1 rfl) ?_
  refine va_aldq hx hb hKX.1 hP 1 4 rfl rfl (vind (by decide)) dX2_lastOf_18 ?_
  refine lv_csv (.ref (xq 29)) rfl ?_
  refine va_get (D := D) (ci := 5) (v := .int 0) (C := RX5) (T := TX5) (N := 3) hx hb hts iw_X2_lastOf_X5 hown hKX.1 hP 2 rfl rfl 1 (by decide) (hts (.fieldLink RX2 38 "TrainFerry$Row" "size" "I") (by decide +kernel)) (fun _ h9 => h9) rfl dX2_lastOf_19 ?_
  refine lv_iconst (v := 1) hx hb dX2_lastOf_22 (by decide) ?_
  refine lv_isub hx hb dX2_lastOf_23 ?_
  refine lv_cst (-1) (by decide) ?_
  refine cl_q (wr := [(xc24 cy xh xq), (xc25 cy xh xq)]) (va_runV (As := [.int (-1)]) (rest := []) ⟨hx, hb, hml, hown, hts⟩ (c_wagonAt l D cy (xq 29) (xq 30) (-1) _) (cwV 1 hts gX2_lastOf_X5_wagonAt rfl rfl rfl (by decide +kernel) ⟨(Nat.le_of_ble_eq_true rfl), (Nat.le_of_ble_eq_true rfl)⟩) (pre_V hKX hP hD (ci := 5) (q0 := 2) rfl rfl [2] rfl (by decide) rfl) rfl rfl hl.1 rfl (lv_room (Nat.le_of_ble_eq_true rfl)) dX2_lastOf_24 ⟨(Nat.le_of_ble_eq_true rfl), (Nat.le_of_ble_eq_true rfl)⟩) hP hD hS hA [2] [0, 1] rfl rfl (by decide) (by decide) (fun u2 H locs _ hP hD hS => ?_)
  have hP : va_P D vwCl [(xc24 cy xh xq), (xc25 cy xh xq), ((xq 29), .inr (5, [.ref (xq 30), .int 0, .int 0]))] H := hP
  have hD : va_D A [(xc24 cy xh xq), (xc25 cy xh xq), ((xq 29), .inr (5, [.ref (xq 30), .int 0, .int 0]))] := hD
  refine lv_csv (.null) rfl ?_
  refine lv_goto (tgt := 31) hx hb dX2_lastOf_27 (by decide) ?_
  exact en_q (v' := none) hx hb hr (Or.inl ⟨_, rfl⟩) hlocks rfl () rfl trivial (hP.sub [0, 1, 2] rfl) (hD.sub [0, 1, 2] (by decide) rfl) hS (Nat.le_of_ble_eq_true rfl) (Nat.le_of_ble_eq_true rfl) dX2_lastOf_31
set_option maxHeartbeats 4000000 in
set_option maxRecDepth 100000 in
theorem c_lastOf_3 (l : Launch) (D : va_G) (cy : Nat → ClassId) (xh : Nat) (xq : Nat → Nat) (sz : Nat) : Met l yX2_lastOf wsX2_lastOf ({ frames := 2, cells := 0, slots := 0, locals := 43 }) (wPre D cy [.ref (xq 23), .int 3] sz [(xc24 cy xh xq), (xc25 cy xh xq), (xc32 cy xh xq)]) (wQq D (fun _u : Unit => none) (fun _ : Unit => True) (fun _u : Unit => [(xc24 cy xh xq), (xc25 cy xh xq), (xc32 cy xh xq)]) (va_A [(xc24 cy xh xq), (xc25 cy xh xq), (xc32 cy xh xq)] sz)) 0 0 (va_A [(xc24 cy xh xq), (xc25 cy xh xq), (xc32 cy xh xq)] sz) := by
  refine met_go (y := yX2_lastOf) (ws := wsX2_lastOf) (av := [.ref (xq 23), .int 3]) (cc := cX2_lastOf) (maxL := 2) (ret := (some (.object "TrainFerry$Wagon"))) (Qc := fun A => wQq D (fun _u : Unit => none) (fun _ : Unit => True) (fun _u : Unit => [(xc24 cy xh xq), (xc25 cy xh xq), (xc32 cy xh xq)]) A) (by decide) rfl (Nat.le_of_ble_eq_true rfl) ?_
  intro p e s m below meth c ls A hx hb hr hml hown hts hlocks hname hKX hP hD hA hS hl
  have hown : s.vm.findClass RX2 = some m.cls := hown
  have hl : lv_has ls 2 [(0, .ref (xq 23)), (1, .int 3)] := hl
  refine lv_iload_n hx hb dX2_lastOf_0 rfl (lv_at hl 1 rfl) ?_
  refine cl_i (wr := [(xc24 cy xh xq), (xc25 cy xh xq), (xc32 cy xh xq)]) (va_runSN (As := [.int 3]) (rest := []) ⟨hx, hb, hml, hown, hts⟩ (c_isDeckTrack l D cy 3 _) ⟨va_cnB 1 hts gX2_lastOf_X11_isDeckTrack_n34 rfl rfl rfl (hKX.2.1 (.methodLinkNest RX2 34 yX11_isDeckTrack RX11) (by decide +kernel)) (hts (.initialized RX11) (by decide +kernel)) (by decide +kernel) ⟨(Nat.le_of_ble_eq_true rfl), (Nat.le_of_ble_eq_true rfl)⟩, hts (.static yX11_isDeckTrack) (by decide +kernel), trivial⟩ (pre_S hKX hP hD [] rfl (by decide) rfl) rfl rfl hl.1 rfl (lv_room (Nat.le_of_ble_eq_true rfl)) dX2_lastOf_1 ⟨(Nat.le_of_ble_eq_true rfl), (Nat.le_of_ble_eq_true rfl)⟩) hP hD hS hA [] [0, 1, 2] rfl rfl (by decide) (by decide) (fun u1 H locs _ hP hD hS => ?_)
  have hP : va_P D vwCl [(xc24 cy xh xq), (xc25 cy xh xq), (xc32 cy xh xq)] H := hP
  have hD : va_D A [(xc24 cy xh xq), (xc25 cy xh xq), (xc32 cy xh xq)] := hD
  refine lv_cst 1 (by decide) ?_
  refine lv_if_eq (tgt := 30) hx hb dX2_lastOf_4 (by decide) (fun c9 => absurd c9 (by decide)) (fun _ => ?_)
  refine lv_aload_n hx hb dX2_lastOf_7 rfl (lv_at hl 0 rfl) ?_
  refine va_get (D := D) (ci := 2) (v := .ref (xq 24)) (C := RX2) (T := TX2) (N := 2) hx hb hts iw_X2_lastOf_X2 hown hKX.1 hP 0 rfl rfl 0 (by decide) (hts (.fieldLink RX2 14 "TrainFerry$Deck" "rows" "[LTrainFerry$Row;") (by decide +kernel)) (fun _ h9 => h9) rfl dX2_lastOf_8 ?_
  refine lv_iload_n hx hb dX2_lastOf_11 rfl (lv_at hl 1 rfl) ?_
  refine va_aldq hx hb hKX.1 hP 1 4 rfl rfl (vind (by decide)) dX2_lastOf_12 ?_
  refine lv_csv (.ref (xq 31)) rfl ?_
  refine lv_aload_n hx hb dX2_lastOf_13 rfl (lv_at hl 0 rfl) ?_
  refine va_get (D := D) (ci := 2) (v := .ref (xq 24)) (C := RX2) (T := TX2) (N := 2) hx hb hts iw_X2_lastOf_X2 hown hKX.1 hP 0 rfl rfl 0 (by decide) (hts (.fieldLink RX2 14 "TrainFerry$Deck" "rows" "[LTrainFerry$Row;") (by decide +kernel)) (fun _ h9 => h9) rfl dX2_lastOf_14 ?_
  refine lv_iload_n hx hb dX2_lastOf_17 rfl (lv_at hl 1 rfl) ?_
  refine va_aldq hx hb hKX.1 hP 1 4 rfl rfl (vind (by decide)) dX2_lastOf_18 ?_
  refine lv_csv (.ref (xq 31)) rfl ?_
  refine va_get (D := D) (ci := 5) (v := .int 0) (C := RX5) (T := TX5) (N := 3) hx hb hts iw_X2_lastOf_X5 hown hKX.1 hP 2 rfl rfl 1 (by decide) (hts (.fieldLink RX2 38 "TrainFerry$Row" "size" "I") (by decide +kernel)) (fun _ h9 => h9) rfl dX2_lastOf_19 ?_
  refine lv_iconst (v := 1) hx hb dX2_lastOf_22 (by decide) ?_
  refine lv_isub hx hb dX2_lastOf_23 ?_
  refine lv_cst (-1) (by decide) ?_
  refine cl_q (wr := [(xc24 cy xh xq), (xc25 cy xh xq)]) (va_runV (As := [.int (-1)]) (rest := []) ⟨hx, hb, hml, hown, hts⟩ (c_wagonAt l D cy (xq 31) (xq 32) (-1) _) (cwV 1 hts gX2_lastOf_X5_wagonAt rfl rfl rfl (by decide +kernel) ⟨(Nat.le_of_ble_eq_true rfl), (Nat.le_of_ble_eq_true rfl)⟩) (pre_V hKX hP hD (ci := 5) (q0 := 2) rfl rfl [2] rfl (by decide) rfl) rfl rfl hl.1 rfl (lv_room (Nat.le_of_ble_eq_true rfl)) dX2_lastOf_24 ⟨(Nat.le_of_ble_eq_true rfl), (Nat.le_of_ble_eq_true rfl)⟩) hP hD hS hA [2] [0, 1] rfl rfl (by decide) (by decide) (fun u2 H locs _ hP hD hS => ?_)
  have hP : va_P D vwCl [(xc24 cy xh xq), (xc25 cy xh xq), ((xq 31), .inr (5, [.ref (xq 32), .int 0, .int 0]))] H := hP
  have hD : va_D A [(xc24 cy xh xq), (xc25 cy xh xq), ((xq 31), .inr (5, [.ref (xq 32), .int 0, .int 0]))] := hD
  refine lv_csv (.null) rfl ?_
  refine lv_goto (tgt := 31) hx hb dX2_lastOf_27 (by decide) ?_
  exact en_q (v' := none) hx hb hr (Or.inl ⟨_, rfl⟩) hlocks rfl () rfl trivial (hP.sub [0, 1, 2] rfl) (hD.sub [0, 1, 2] (by decide) rfl) hS (Nat.le_of_ble_eq_true rfl) (Nat.le_of_ble_eq_true rfl) dX2_lastOf_31
set_option maxHeartbeats 4000000 in
set_option maxRecDepth 100000 in
theorem c_lastOf_o (l : Launch) (D : va_G) (cy : Nat → ClassId) (xh : Nat) (xq : Nat → Nat) (xd : Int32) (hd : (wi xd 0 3) = 0) (sz : Nat) : Met l yX2_lastOf wsX2_lastOf ({ frames := 2, cells := 0, slots := 0, locals := 42 }) (wPre D cy [.ref (xq 23), .int xd] sz []) (wQq D (fun _u : Unit => none) (fun _ : Unit => True) (fun _u : Unit => []) (va_A [] sz)) 0 0 (va_A [] sz) := by
  refine met_go (y := yX2_lastOf) (ws := wsX2_lastOf) (av := [.ref (xq 23), .int xd]) (cc := cX2_lastOf) (maxL := 2) (ret := (some (.object "TrainFerry$Wagon"))) (Qc := fun A => wQq D (fun _u : Unit => none) (fun _ : Unit => True) (fun _u : Unit => []) A) (by decide) rfl (Nat.le_of_ble_eq_true rfl) ?_
  intro p e s m below meth c ls A hx hb hr hml hown hts hlocks hname hKX hP hD hA hS hl
  have hown : s.vm.findClass RX2 = some m.cls := hown
  have hl : lv_has ls 2 [(0, .ref (xq 23)), (1, .int xd)] := hl
  refine lv_iload_n hx hb dX2_lastOf_0 rfl (lv_at hl 1 rfl) ?_
  refine cl_i (wr := []) (va_runSN (As := [.int xd]) (rest := []) ⟨hx, hb, hml, hown, hts⟩ (c_isDeckTrack l D cy xd _) ⟨va_cnB 1 hts gX2_lastOf_X11_isDeckTrack_n34 rfl rfl rfl (hKX.2.1 (.methodLinkNest RX2 34 yX11_isDeckTrack RX11) (by decide +kernel)) (hts (.initialized RX11) (by decide +kernel)) (by decide +kernel) ⟨(Nat.le_of_ble_eq_true rfl), (Nat.le_of_ble_eq_true rfl)⟩, hts (.static yX11_isDeckTrack) (by decide +kernel), trivial⟩ (pre_S hKX hP hD [] rfl (by decide) rfl) rfl rfl hl.1 rfl (lv_room (Nat.le_of_ble_eq_true rfl)) dX2_lastOf_1 ⟨(Nat.le_of_ble_eq_true rfl), (Nat.le_of_ble_eq_true rfl)⟩) hP hD hS hA [] [] rfl rfl (by decide) (by decide) (fun u1 H locs _ hP hD hS => ?_)
  have hP : va_P D vwCl [] H := hP
  have hD : va_D A [] := hD
  refine lv_if_eq (tgt := 30) hx hb dX2_lastOf_4 (by decide) (fun _ => ?_) (fun c9 => absurd hd c9)
  refine lv_null hx hb dX2_lastOf_30 ?_
  exact en_q (v' := none) hx hb hr (Or.inl ⟨_, rfl⟩) hlocks rfl () rfl trivial (hP.sub [] rfl) (hD.sub [] (by decide) rfl) hS (Nat.le_of_ble_eq_true rfl) (Nat.le_of_ble_eq_true rfl) dX2_lastOf_31
theorem iw_X11_off_X11 : ∀ w ∈ wsX110, w ∈ wsX11_off := by decide +kernel
set_option maxHeartbeats 4000000 in
set_option maxRecDepth 100000 in
theorem c_off (l : Launch) (D : va_G) (cy : Nat → ClassId) (xh : Nat) (xq : Nat → Nat) (xd : Int32) (xt : Int32) (sz : Nat) : Met l yX11_off wsX11_off ({ frames := 3, cells := 0, slots := 0, locals := 64 }) (wPre D cy [.ref xh, .int xd, .int xt] sz [(xc0 cy xh xq), (xc24 cy xh xq), (xc25 cy xh xq), (xc26 cy xh xq), (xc28 cy xh xq), (xc30 cy xh xq), (xc32 cy xh xq)]) (wQi D (-1) (fun _ : Unit => True) (fun _u : Unit => []) (va_A [(xc0 cy xh xq), (xc24 cy xh xq), (xc25 cy xh xq), (xc26 cy xh xq), (xc28 cy xh xq), (xc30 cy xh xq), (xc32 cy xh xq)] sz)) 0 0 (va_A [(xc0 cy xh xq), (xc24 cy xh xq), (xc25 cy xh xq), (xc26 cy xh xq), (xc28 cy xh xq), (xc30 cy xh xq), (xc32 cy xh xq)] sz) := by
  refine met_go (y := yX11_off) (ws := wsX11_off) (av := [.ref xh, .int xd, .int xt]) (cc := cX11_off) (maxL := 5) (ret := (some .int)) (Qc := fun A => wQi D (-1) (fun _ : Unit => True) (fun _u : Unit => []) A) (by decide) rfl (Nat.le_of_ble_eq_true rfl) ?_
  intro p e s m below meth c ls A hx hb hr hml hown hts hlocks hname hKX hP hD hA hS hl
  have hown : s.vm.findClass RX11 = some m.cls := hown
  have hl : lv_has ls 5 [(0, .ref xh), (1, .int xd), (2, .int xt)] := hl
  rcases sp4 xd with rfl | rfl | rfl | rfl | o1
  · refine lv_aload_n hx hb dX11_off_0 rfl (lv_at hl 0 rfl) ?_
    refine va_get (D := D) (ci := 11) (v := .ref (xq 23)) (C := RX11) (T := TX11) (N := 18) hx hb hts iw_X11_off_X11 hown hKX.1 hP 0 rfl rfl 1 (by decide) (hts (.fieldLink RX11 19 "TrainFerry" "deck" "LTrainFerry$Deck;") (by decide +kernel)) (fun _ h9 => h9) rfl dX11_off_1 ?_
    refine lv_iload_n hx hb dX11_off_4 rfl (lv_at hl 1 rfl) ?_
    refine cl_q (wr := [(xc0 cy xh xq), (xc28 cy xh xq), (xc30 cy xh xq), (xc32 cy xh xq)]) (va_runV (As := [.int 0]) (rest := []) ⟨hx, hb, hml, hown, hts⟩ (c_lastOf_0 l D cy xh xq _) (cwV 1 hts gX11_off_X2_lastOf rfl rfl rfl (by decide +kernel) ⟨(Nat.le_of_ble_eq_true rfl), (Nat.le_of_ble_eq_true rfl)⟩) (pre_V hKX hP hD (ci := 2) (q0 := 1) rfl rfl [1, 2, 3] rfl (by decide) rfl) rfl rfl hl.1 rfl (lv_room (Nat.le_of_ble_eq_true rfl)) dX11_off_5 ⟨(Nat.le_of_ble_eq_true rfl), (Nat.le_of_ble_eq_true rfl)⟩) hP hD hS hA [1, 2, 3] [0, 4, 5, 6] rfl rfl (by decide) (by decide) (fun u2 H locs _ hP hD hS => ?_)
    have hP : va_P D vwCl [(xc0 cy xh xq), (xc28 cy xh xq), (xc30 cy xh xq), (xc32 cy xh xq), (xc24 cy xh xq), (xc25 cy xh xq), (xc26 cy xh xq)] H := hP
    have hD : va_D A [(xc0 cy xh xq), (xc28 cy xh xq), (xc30 cy xh xq), (xc32 cy xh xq), (xc24 cy xh xq), (xc25 cy xh xq), (xc26 cy xh xq)] := hD
    refine lv_csv (.null) rfl ?_
    refine lv_astore_nN (lv' := [(3, .null), (0, .ref xh), (1, .int 0), (2, .int xt)]) hx hb dX11_off_8 rfl hl (by decide) rfl (fun ls hl => ?_)
    refine lv_aload_nN hx hb dX11_off_9 rfl (lv_at hl 0 rfl) ?_
    refine lv_ifnonnullN hx hb dX11_off_10 ?_
    refine lv_iconst (v := (-1)) hx hb dX11_off_13 (by decide) ?_
    exact en_i hx hb hr hlocks () rfl trivial (hP.sub [] rfl) (hD.sub [] (by decide) rfl) hS (Nat.le_of_ble_eq_true rfl) (Nat.le_of_ble_eq_true rfl) dX11_off_14
  · refine lv_aload_n hx hb dX11_off_0 rfl (lv_at hl 0 rfl) ?_
    refine va_get (D := D) (ci := 11) (v := .ref (xq 23)) (C := RX11) (T := TX11) (N := 18) hx hb hts iw_X11_off_X11 hown hKX.1 hP 0 rfl rfl 1 (by decide) (hts (.fieldLink RX11 19 "TrainFerry" "deck" "LTrainFerry$Deck;") (by decide +kernel)) (fun _ h9 => h9) rfl dX11_off_1 ?_
    refine lv_iload_n hx hb dX11_off_4 rfl (lv_at hl 1 rfl) ?_
    refine cl_q (wr := [(xc0 cy xh xq), (xc26 cy xh xq), (xc30 cy xh xq), (xc32 cy xh xq)]) (va_runV (As := [.int 1]) (rest := []) ⟨hx, hb, hml, hown, hts⟩ (c_lastOf_1 l D cy xh xq _) (cwV 1 hts gX11_off_X2_lastOf rfl rfl rfl (by decide +kernel) ⟨(Nat.le_of_ble_eq_true rfl), (Nat.le_of_ble_eq_true rfl)⟩) (pre_V hKX hP hD (ci := 2) (q0 := 1) rfl rfl [1, 2, 4] rfl (by decide) rfl) rfl rfl hl.1 rfl (lv_room (Nat.le_of_ble_eq_true rfl)) dX11_off_5 ⟨(Nat.le_of_ble_eq_true rfl), (Nat.le_of_ble_eq_true rfl)⟩) hP hD hS hA [1, 2, 4] [0, 3, 5, 6] rfl rfl (by decide) (by decide) (fun u3 H locs _ hP hD hS => ?_)
    have hP : va_P D vwCl [(xc0 cy xh xq), (xc26 cy xh xq), (xc30 cy xh xq), (xc32 cy xh xq), (xc24 cy xh xq), (xc25 cy xh xq), (xc28 cy xh xq)] H := hP
    have hD : va_D A [(xc0 cy xh xq), (xc26 cy xh xq), (xc30 cy xh xq), (xc32 cy xh xq), (xc24 cy xh xq), (xc25 cy xh xq), (xc28 cy xh xq)] := hD
    refine lv_csv (.null) rfl ?_
    refine lv_astore_nN (lv' := [(3, .null), (0, .ref xh), (1, .int 1), (2, .int xt)]) hx hb dX11_off_8 rfl hl (by decide) rfl (fun ls hl => ?_)
    refine lv_aload_nN hx hb dX11_off_9 rfl (lv_at hl 0 rfl) ?_
    refine lv_ifnonnullN hx hb dX11_off_10 ?_
    refine lv_iconst (v := (-1)) hx hb dX11_off_13 (by decide) ?_
    exact en_i hx hb hr hlocks () rfl trivial (hP.sub [] rfl) (hD.sub [] (by decide) rfl) hS (Nat.le_of_ble_eq_true rfl) (Nat.le_of_ble_eq_true rfl) dX11_off_14
  · refine lv_aload_n hx hb dX11_off_0 rfl (lv_at hl 0 rfl) ?_
    refine va_get (D := D) (ci := 11) (v := .ref (xq 23)) (C := RX11) (T := TX11) (N := 18) hx hb hts iw_X11_off_X11 hown hKX.1 hP 0 rfl rfl 1 (by decide) (hts (.fieldLink RX11 19 "TrainFerry" "deck" "LTrainFerry$Deck;") (by decide +kernel)) (fun _ h9 => h9) rfl dX11_off_1 ?_
    refine lv_iload_n hx hb dX11_off_4 rfl (lv_at hl 1 rfl) ?_
    refine cl_q (wr := [(xc0 cy xh xq), (xc26 cy xh xq), (xc28 cy xh xq), (xc32 cy xh xq)]) (va_runV (As := [.int 2]) (rest := []) ⟨hx, hb, hml, hown, hts⟩ (c_lastOf_2 l D cy xh xq _) (cwV 1 hts gX11_off_X2_lastOf rfl rfl rfl (by decide +kernel) ⟨(Nat.le_of_ble_eq_true rfl), (Nat.le_of_ble_eq_true rfl)⟩) (pre_V hKX hP hD (ci := 2) (q0 := 1) rfl rfl [1, 2, 5] rfl (by decide) rfl) rfl rfl hl.1 rfl (lv_room (Nat.le_of_ble_eq_true rfl)) dX11_off_5 ⟨(Nat.le_of_ble_eq_true rfl), (Nat.le_of_ble_eq_true rfl)⟩) hP hD hS hA [1, 2, 5] [0, 3, 4, 6] rfl rfl (by decide) (by decide) (fun u4 H locs _ hP hD hS => ?_)
    have hP : va_P D vwCl [(xc0 cy xh xq), (xc26 cy xh xq), (xc28 cy xh xq), (xc32 cy xh xq), (xc24 cy xh xq), (xc25 cy xh xq), (xc30 cy xh xq)] H := hP
    have hD : va_D A [(xc0 cy xh xq), (xc26 cy xh xq), (xc28 cy xh xq), (xc32 cy xh xq), (xc24 cy xh xq), (xc25 cy xh xq), (xc30 cy xh xq)] := hD
    refine lv_csv (.null) rfl ?_
    refine lv_astore_nN (lv' := [(3, .null), (0, .ref xh), (1, .int 2), (2, .int xt)]) hx hb dX11_off_8 rfl hl (by decide) rfl (fun ls hl => ?_)
    refine lv_aload_nN hx hb dX11_off_9 rfl (lv_at hl 0 rfl) ?_
    refine lv_ifnonnullN hx hb dX11_off_10 ?_
    refine lv_iconst (v := (-1)) hx hb dX11_off_13 (by decide) ?_
    exact en_i hx hb hr hlocks () rfl trivial (hP.sub [] rfl) (hD.sub [] (by decide) rfl) hS (Nat.le_of_ble_eq_true rfl) (Nat.le_of_ble_eq_true rfl) dX11_off_14
  · refine lv_aload_n hx hb dX11_off_0 rfl (lv_at hl 0 rfl) ?_
    refine va_get (D := D) (ci := 11) (v := .ref (xq 23)) (C := RX11) (T := TX11) (N := 18) hx hb hts iw_X11_off_X11 hown hKX.1 hP 0 rfl rfl 1 (by decide) (hts (.fieldLink RX11 19 "TrainFerry" "deck" "LTrainFerry$Deck;") (by decide +kernel)) (fun _ h9 => h9) rfl dX11_off_1 ?_
    refine lv_iload_n hx hb dX11_off_4 rfl (lv_at hl 1 rfl) ?_
    refine cl_q (wr := [(xc0 cy xh xq), (xc26 cy xh xq), (xc28 cy xh xq), (xc30 cy xh xq)]) (va_runV (As := [.int 3]) (rest := []) ⟨hx, hb, hml, hown, hts⟩ (c_lastOf_3 l D cy xh xq _) (cwV 1 hts gX11_off_X2_lastOf rfl rfl rfl (by decide +kernel) ⟨(Nat.le_of_ble_eq_true rfl), (Nat.le_of_ble_eq_true rfl)⟩) (pre_V hKX hP hD (ci := 2) (q0 := 1) rfl rfl [1, 2, 6] rfl (by decide) rfl) rfl rfl hl.1 rfl (lv_room (Nat.le_of_ble_eq_true rfl)) dX11_off_5 ⟨(Nat.le_of_ble_eq_true rfl), (Nat.le_of_ble_eq_true rfl)⟩) hP hD hS hA [1, 2, 6] [0, 3, 4, 5] rfl rfl (by decide) (by decide) (fun u5 H locs _ hP hD hS => ?_)
    have hP : va_P D vwCl [(xc0 cy xh xq), (xc26 cy xh xq), (xc28 cy xh xq), (xc30 cy xh xq), (xc24 cy xh xq), (xc25 cy xh xq), (xc32 cy xh xq)] H := hP
    have hD : va_D A [(xc0 cy xh xq), (xc26 cy xh xq), (xc28 cy xh xq), (xc30 cy xh xq), (xc24 cy xh xq), (xc25 cy xh xq), (xc32 cy xh xq)] := hD
    refine lv_csv (.null) rfl ?_
    refine lv_astore_nN (lv' := [(3, .null), (0, .ref xh), (1, .int 3), (2, .int xt)]) hx hb dX11_off_8 rfl hl (by decide) rfl (fun ls hl => ?_)
    refine lv_aload_nN hx hb dX11_off_9 rfl (lv_at hl 0 rfl) ?_
    refine lv_ifnonnullN hx hb dX11_off_10 ?_
    refine lv_iconst (v := (-1)) hx hb dX11_off_13 (by decide) ?_
    exact en_i hx hb hr hlocks () rfl trivial (hP.sub [] rfl) (hD.sub [] (by decide) rfl) hS (Nat.le_of_ble_eq_true rfl) (Nat.le_of_ble_eq_true rfl) dX11_off_14
  · refine lv_aload_n hx hb dX11_off_0 rfl (lv_at hl 0 rfl) ?_
    refine va_get (D := D) (ci := 11) (v := .ref (xq 23)) (C := RX11) (T := TX11) (N := 18) hx hb hts iw_X11_off_X11 hown hKX.1 hP 0 rfl rfl 1 (by decide) (hts (.fieldLink RX11 19 "TrainFerry" "deck" "LTrainFerry$Deck;") (by decide +kernel)) (fun _ h9 => h9) rfl dX11_off_1 ?_
    refine lv_iload_n hx hb dX11_off_4 rfl (lv_at hl 1 rfl) ?_
    refine cl_q (wr := [(xc0 cy xh xq), (xc24 cy xh xq), (xc25 cy xh xq), (xc26 cy xh xq), (xc28 cy xh xq), (xc30 cy xh xq), (xc32 cy xh xq)]) (va_runV (As := [.int xd]) (rest := []) ⟨hx, hb, hml, hown, hts⟩ (c_lastOf_o l D cy xh xq xd o1 _) (cwV 1 hts gX11_off_X2_lastOf rfl rfl rfl (by decide +kernel) ⟨(Nat.le_of_ble_eq_true rfl), (Nat.le_of_ble_eq_true rfl)⟩) (pre_V hKX hP hD (ci := 2) (q0 := 1) rfl rfl [] rfl (by decide) rfl) rfl rfl hl.1 rfl (lv_room (Nat.le_of_ble_eq_true rfl)) dX11_off_5 ⟨(Nat.le_of_ble_eq_true rfl), (Nat.le_of_ble_eq_true rfl)⟩) hP hD hS hA [] [0, 1, 2, 3, 4, 5, 6] rfl rfl (by decide) (by decide) (fun u6 H locs _ hP hD hS => ?_)
    have hP : va_P D vwCl [(xc0 cy xh xq), (xc24 cy xh xq), (xc25 cy xh xq), (xc26 cy xh xq), (xc28 cy xh xq), (xc30 cy xh xq), (xc32 cy xh xq)] H := hP
    have hD : va_D A [(xc0 cy xh xq), (xc24 cy xh xq), (xc25 cy xh xq), (xc26 cy xh xq), (xc28 cy xh xq), (xc30 cy xh xq), (xc32 cy xh xq)] := hD
    refine lv_csv (.null) rfl ?_
    refine lv_astore_nN (lv' := [(3, .null), (0, .ref xh), (1, .int xd), (2, .int xt)]) hx hb dX11_off_8 rfl hl (by decide) rfl (fun ls hl => ?_)
    refine lv_aload_nN hx hb dX11_off_9 rfl (lv_at hl 0 rfl) ?_
    refine lv_ifnonnullN hx hb dX11_off_10 ?_
    refine lv_iconst (v := (-1)) hx hb dX11_off_13 (by decide) ?_
    exact en_i hx hb hr hlocks () rfl trivial (hP.sub [] rfl) (hD.sub [] (by decide) rfl) hS (Nat.le_of_ble_eq_true rfl) (Nat.le_of_ble_eq_true rfl) dX11_off_14
theorem iw_X8_chainsNeeded_X8 : ∀ w ∈ wsX80, w ∈ wsX8_chainsNeeded := by decide +kernel
set_option maxHeartbeats 4000000 in
set_option maxRecDepth 100000 in
theorem c_chains (l : Launch) (D : va_G) (cy : Nat → ClassId) (h : Nat) (ra : Nat) (rb : Nat) (rc : Nat) (rd : Nat) (sz : Nat) : Met l yX8_chainsNeeded wsX8_chainsNeeded ({ frames := 0, cells := 0, slots := 0, locals := 0 }) (wPre D cy [.ref h, .int 0] sz [(h, .inr (8, [.ref ra, .ref rb, .ref rc, .ref rd, .int 0, .int 0, .int 0, .int 0, .int 100, .int 200]))]) (wQi D 0 (fun _ : Unit => True) (fun _u : Unit => [(h, .inr (8, [.ref ra, .ref rb, .ref rc, .ref rd, .int 0, .int 0, .int 0, .int 0, .int 100, .int 200]))]) (va_A [(h, .inr (8, [.ref ra, .ref rb, .ref rc, .ref rd, .int 0, .int 0, .int 0, .int 0, .int 100, .int 200]))] sz)) 0 0 (va_A [(h, .inr (8, [.ref ra, .ref rb, .ref rc, .ref rd, .int 0, .int 0, .int 0, .int 0, .int 100, .int 200]))] sz) := by
  refine met_go (y := yX8_chainsNeeded) (ws := wsX8_chainsNeeded) (av := [.ref h, .int 0]) (cc := cX8_chainsNeeded) (maxL := 2) (ret := (some .int)) (Qc := fun A => wQi D 0 (fun _ : Unit => True) (fun _u : Unit => [(h, .inr (8, [.ref ra, .ref rb, .ref rc, .ref rd, .int 0, .int 0, .int 0, .int 0, .int 100, .int 200]))]) A) (by decide) rfl (Nat.le_of_ble_eq_true rfl) ?_
  intro p e s m below meth c ls A hx hb hr hml hown hts hlocks hname hKX hP hD hA hS hl
  have hown : s.vm.findClass RX8 = some m.cls := hown
  have hl : lv_has ls 2 [(0, .ref h), (1, .int 0)] := hl
  refine lv_aload_n hx hb dX8_chainsNeeded_0 rfl (lv_at hl 0 rfl) ?_
  refine va_get (D := D) (ci := 8) (v := .int 0) (C := RX8) (T := TX8) (N := 10) hx hb hts iw_X8_chainsNeeded_X8 hown hKX.1 hP 0 rfl rfl 6 (by decide) (hts (.fieldLink RX8 31 "TrainFerry$Tally" "chainUnits" "I") (by decide +kernel)) (fun _ h9 => h9) rfl dX8_chainsNeeded_1 ?_
  refine lv_iload_n hx hb dX8_chainsNeeded_4 rfl (lv_at hl 1 rfl) ?_
  refine lv_imul hx hb dX8_chainsNeeded_5 ?_
  refine lv_cst 0 (by decide) ?_
  exact en_i hx hb hr hlocks () rfl trivial (hP.sub [0] rfl) (hD.sub [0] (by decide) rfl) hS (Nat.le_of_ble_eq_true rfl) (Nat.le_of_ble_eq_true rfl) dX8_chainsNeeded_6
theorem iw_X11_sail_X11 : ∀ w ∈ wsX110, w ∈ wsX11_sail := by decide +kernel
theorem iw_X11_sail_X2 : ∀ w ∈ wsX20, w ∈ wsX11_sail := by decide +kernel
set_option maxHeartbeats 4000000 in
set_option maxRecDepth 100000 in
theorem c_sail (l : Launch) (D : va_G) (cy : Nat → ClassId) (xh : Nat) (xq : Nat → Nat) (sz : Nat) : Met l yX11_sail wsX11_sail ({ frames := 1, cells := 0, slots := 0, locals := 21 }) (wPre D cy [.ref xh] sz [(xc0 cy xh xq), (xc24 cy xh xq), (xc34 cy xh xq)]) (wQi D 10 (fun _ : Unit => True) (fun _u : Unit => []) (va_A [(xc0 cy xh xq), (xc24 cy xh xq), (xc34 cy xh xq)] sz)) 0 0 (va_A [(xc0 cy xh xq), (xc24 cy xh xq), (xc34 cy xh xq)] sz) := by
  refine met_go (y := yX11_sail) (ws := wsX11_sail) (av := [.ref xh]) (cc := cX11_sail) (maxL := 1) (ret := (some .int)) (Qc := fun A => wQi D 10 (fun _ : Unit => True) (fun _u : Unit => []) A) (by decide) rfl (Nat.le_of_ble_eq_true rfl) ?_
  intro p e s m below meth c ls A hx hb hr hml hown hts hlocks hname hKX hP hD hA hS hl
  have hown : s.vm.findClass RX11 = some m.cls := hown
  have hl : lv_has ls 1 [(0, .ref xh)] := hl
  refine lv_aload_n hx hb dX11_sail_0 rfl (lv_at hl 0 rfl) ?_
  refine va_get (D := D) (ci := 11) (v := .int 0) (C := RX11) (T := TX11) (N := 18) hx hb hts iw_X11_sail_X11 hown hKX.1 hP 0 rfl rfl 11 (by decide) (hts (.fieldLink RX11 70 "TrainFerry" "ferryAt" "I") (by decide +kernel)) (fun _ h9 => h9) rfl dX11_sail_1 ?_
  refine lv_iconst (v := 2) hx hb dX11_sail_4 (by decide) ?_
  refine lv_icmp_ne (tgt := 10) hx hb dX11_sail_5 (by decide) (fun _ => ?_) (fun c9 => absurd c9 (by decide))
  refine lv_aload_n hx hb dX11_sail_10 rfl (lv_at hl 0 rfl) ?_
  refine va_get (D := D) (ci := 11) (v := .int 0) (C := RX11) (T := TX11) (N := 18) hx hb hts iw_X11_sail_X11 hown hKX.1 hP 0 rfl rfl 15 (by decide) (hts (.fieldLink RX11 82 "TrainFerry" "sea" "I") (by decide +kernel)) (fun _ h9 => h9) rfl dX11_sail_11 ?_
  refine lv_iconst (v := 5) hx hb dX11_sail_14 (by decide) ?_
  refine lv_icmp_lt (tgt := 21) hx hb dX11_sail_15 (by decide) (fun _ => ?_) (fun c9 => absurd (by decide) c9)
  refine lv_aload_n hx hb dX11_sail_21 rfl (lv_at hl 0 rfl) ?_
  refine va_get (D := D) (ci := 11) (v := .ref (xq 23)) (C := RX11) (T := TX11) (N := 18) hx hb hts iw_X11_sail_X11 hown hKX.1 hP 0 rfl rfl 1 (by decide) (hts (.fieldLink RX11 19 "TrainFerry" "deck" "LTrainFerry$Deck;") (by decide +kernel)) (fun _ h9 => h9) rfl dX11_sail_22 ?_
  refine va_get (D := D) (ci := 2) (v := .ref (xq 33)) (C := RX2) (T := TX2) (N := 2) hx hb hts iw_X11_sail_X2 hown hKX.1 hP 1 rfl rfl 1 (by decide) (hts (.fieldLink RX11 95 "TrainFerry$Deck" "tally" "LTrainFerry$Tally;") (by decide +kernel)) (fun _ h9 => h9) rfl dX11_sail_25 ?_
  refine lv_aload_n hx hb dX11_sail_28 rfl (lv_at hl 0 rfl) ?_
  refine va_get (D := D) (ci := 11) (v := .int 0) (C := RX11) (T := TX11) (N := 18) hx hb hts iw_X11_sail_X11 hown hKX.1 hP 0 rfl rfl 15 (by decide) (hts (.fieldLink RX11 82 "TrainFerry" "sea" "I") (by decide +kernel)) (fun _ h9 => h9) rfl dX11_sail_29 ?_
  refine cl_i (wr := [(xc0 cy xh xq), (xc24 cy xh xq)]) (va_runV (As := [.int 0]) (rest := []) ⟨hx, hb, hml, hown, hts⟩ (c_chains l D cy (xq 33) (xq 34) (xq 35) (xq 36) (xq 37) _) (cwV 1 hts gX11_sail_X8_chainsNeeded rfl rfl rfl (by decide +kernel) ⟨(Nat.le_of_ble_eq_true rfl), (Nat.le_of_ble_eq_true rfl)⟩) (pre_V hKX hP hD (ci := 8) (q0 := 2) rfl rfl [2] rfl (by decide) rfl) rfl rfl hl.1 rfl (lv_room (Nat.le_of_ble_eq_true rfl)) dX11_sail_32 ⟨(Nat.le_of_ble_eq_true rfl), (Nat.le_of_ble_eq_true rfl)⟩) hP hD hS hA [2] [0, 1] rfl rfl (by decide) (by decide) (fun u1 H locs _ hP hD hS => ?_)
  have hP : va_P D vwCl [(xc0 cy xh xq), (xc24 cy xh xq), ((xq 33), .inr (8, [.ref (xq 34), .ref (xq 35), .ref (xq 36), .ref (xq 37), .int 0, .int 0, .int 0, .int 0, .int 100, .int 200]))] H := hP
  have hD : va_D A [(xc0 cy xh xq), (xc24 cy xh xq), ((xq 33), .inr (8, [.ref (xq 34), .ref (xq 35), .ref (xq 36), .ref (xq 37), .int 0, .int 0, .int 0, .int 0, .int 100, .int 200]))] := hD
  refine lv_aload_n hx hb dX11_sail_35 rfl (lv_at hl 0 rfl) ?_
  refine va_get (D := D) (ci := 11) (v := .int 100) (C := RX11) (T := TX11) (N := 18) hx hb hts iw_X11_sail_X11 hown hKX.1 hP 0 rfl rfl 17 (by decide) (hts (.fieldLink RX11 88 "TrainFerry" "chains" "I") (by decide +kernel)) (fun _ h9 => h9) rfl dX11_sail_36 ?_
  refine lv_icmp_le (tgt := 45) hx hb dX11_sail_39 (by decide) (fun _ => ?_) (fun c9 => absurd (by decide) c9)
  refine lv_aload_n hx hb dX11_sail_45 rfl (lv_at hl 0 rfl) ?_
  refine lv_iconst (v := 1) hx hb dX11_sail_46 (by decide) ?_
  refine lv_aload_n hx hb dX11_sail_47 rfl (lv_at hl 0 rfl) ?_
  refine va_get (D := D) (ci := 11) (v := .int 0) (C := RX11) (T := TX11) (N := 18) hx hb hts iw_X11_sail_X11 hown hKX.1 hP 0 rfl rfl 11 (by decide) (hts (.fieldLink RX11 70 "TrainFerry" "ferryAt" "I") (by decide +kernel)) (fun _ h9 => h9) rfl dX11_sail_48 ?_
  refine lv_isub hx hb dX11_sail_51 ?_
  refine lv_cst 1 (by decide) ?_
  refine va_put (D := D) (ci := 11) (v := .int 1) (ty := .int) (C := RX11) (T := TX11) (N := 18) hx hb hts iw_X11_sail_X11 tyX11 tyX11_ok nmX11 hown hKX.1 hP hD hS 0 rfl rfl 12 (by decide) (hts (.fieldLink RX11 73 "TrainFerry" "boundFor" "I") (by decide +kernel)) (fun _ h9 => h9) rfl (by decide +kernel) rfl rfl (Nat.le_of_ble_eq_true rfl) dX11_sail_52 (fun H locs hP hD hS => ?_)
  have hP : va_P D vwCl [(xh, .inr (11, [.ref (xq 0), .ref (xq 23), .ref (xq 38), .ref (xq 39), .ref (xq 42), .ref (xq 43), .null, .null, .int 0, .int 0, .int 0, .int 0, .int 1, .int (-1), .int 0, .int 0, .int 5, .int 100])), (xc24 cy xh xq), ((xq 33), .inr (8, [.ref (xq 34), .ref (xq 35), .ref (xq 36), .ref (xq 37), .int 0, .int 0, .int 0, .int 0, .int 100, .int 200]))] H := hP
  have hD : va_D A [(xh, .inr (11, [.ref (xq 0), .ref (xq 23), .ref (xq 38), .ref (xq 39), .ref (xq 42), .ref (xq 43), .null, .null, .int 0, .int 0, .int 0, .int 0, .int 1, .int (-1), .int 0, .int 0, .int 5, .int 100])), (xc24 cy xh xq), ((xq 33), .inr (8, [.ref (xq 34), .ref (xq 35), .ref (xq 36), .ref (xq 37), .int 0, .int 0, .int 0, .int 0, .int 100, .int 200]))] := hD
  refine lv_aload_n hx hb dX11_sail_55 rfl (lv_at hl 0 rfl) ?_
  refine lv_iconst (v := 2) hx hb dX11_sail_56 (by decide) ?_
  refine va_put (D := D) (ci := 11) (v := .int 2) (ty := .int) (C := RX11) (T := TX11) (N := 18) hx hb hts iw_X11_sail_X11 tyX11 tyX11_ok nmX11 hown hKX.1 hP hD hS 0 rfl rfl 11 (by decide) (hts (.fieldLink RX11 70 "TrainFerry" "ferryAt" "I") (by decide +kernel)) (fun _ h9 => h9) rfl (by decide +kernel) rfl rfl (Nat.le_of_ble_eq_true rfl) dX11_sail_57 (fun H locs hP hD hS => ?_)
  have hP : va_P D vwCl [(xh, .inr (11, [.ref (xq 0), .ref (xq 23), .ref (xq 38), .ref (xq 39), .ref (xq 42), .ref (xq 43), .null, .null, .int 0, .int 0, .int 0, .int 2, .int 1, .int (-1), .int 0, .int 0, .int 5, .int 100])), (xc24 cy xh xq), ((xq 33), .inr (8, [.ref (xq 34), .ref (xq 35), .ref (xq 36), .ref (xq 37), .int 0, .int 0, .int 0, .int 0, .int 100, .int 200]))] H := hP
  have hD : va_D A [(xh, .inr (11, [.ref (xq 0), .ref (xq 23), .ref (xq 38), .ref (xq 39), .ref (xq 42), .ref (xq 43), .null, .null, .int 0, .int 0, .int 0, .int 2, .int 1, .int (-1), .int 0, .int 0, .int 5, .int 100])), (xc24 cy xh xq), ((xq 33), .inr (8, [.ref (xq 34), .ref (xq 35), .ref (xq 36), .ref (xq 37), .int 0, .int 0, .int 0, .int 0, .int 100, .int 200]))] := hD
  refine lv_aload_n hx hb dX11_sail_60 rfl (lv_at hl 0 rfl) ?_
  refine lv_aload_n hx hb dX11_sail_61 rfl (lv_at hl 0 rfl) ?_
  refine va_get (D := D) (ci := 11) (v := .int 0) (C := RX11) (T := TX11) (N := 18) hx hb hts iw_X11_sail_X11 hown hKX.1 hP 0 rfl rfl 10 (by decide) (hts (.fieldLink RX11 67 "TrainFerry" "now" "I") (by decide +kernel)) (fun _ h9 => h9) rfl dX11_sail_62 ?_
  refine lv_bipush (v := 10) hx hb dX11_sail_65 (by decide) ?_
  refine lv_iadd hx hb dX11_sail_67 ?_
  refine lv_cst 10 (by decide) ?_
  refine lv_iconst (v := 3) hx hb dX11_sail_68 (by decide) ?_
  refine lv_aload_n hx hb dX11_sail_69 rfl (lv_at hl 0 rfl) ?_
  refine va_get (D := D) (ci := 11) (v := .int 0) (C := RX11) (T := TX11) (N := 18) hx hb hts iw_X11_sail_X11 hown hKX.1 hP 0 rfl rfl 15 (by decide) (hts (.fieldLink RX11 82 "TrainFerry" "sea" "I") (by decide +kernel)) (fun _ h9 => h9) rfl dX11_sail_70 ?_
  refine lv_imul hx hb dX11_sail_73 ?_
  refine lv_cst 0 (by decide) ?_
  refine lv_iadd hx hb dX11_sail_74 ?_
  refine lv_cst 10 (by decide) ?_
  refine va_put (D := D) (ci := 11) (v := .int 10) (ty := .int) (C := RX11) (T := TX11) (N := 18) hx hb hts iw_X11_sail_X11 tyX11 tyX11_ok nmX11 hown hKX.1 hP hD hS 0 rfl rfl 13 (by decide) (hts (.fieldLink RX11 76 "TrainFerry" "arrival" "I") (by decide +kernel)) (fun _ h9 => h9) rfl (by decide +kernel) rfl rfl (Nat.le_of_ble_eq_true rfl) dX11_sail_75 (fun H locs hP hD hS => ?_)
  have hP : va_P D vwCl [(xh, .inr (11, [.ref (xq 0), .ref (xq 23), .ref (xq 38), .ref (xq 39), .ref (xq 42), .ref (xq 43), .null, .null, .int 0, .int 0, .int 0, .int 2, .int 1, .int 10, .int 0, .int 0, .int 5, .int 100])), (xc24 cy xh xq), ((xq 33), .inr (8, [.ref (xq 34), .ref (xq 35), .ref (xq 36), .ref (xq 37), .int 0, .int 0, .int 0, .int 0, .int 100, .int 200]))] H := hP
  have hD : va_D A [(xh, .inr (11, [.ref (xq 0), .ref (xq 23), .ref (xq 38), .ref (xq 39), .ref (xq 42), .ref (xq 43), .null, .null, .int 0, .int 0, .int 0, .int 2, .int 1, .int 10, .int 0, .int 0, .int 5, .int 100])), (xc24 cy xh xq), ((xq 33), .inr (8, [.ref (xq 34), .ref (xq 35), .ref (xq 36), .ref (xq 37), .int 0, .int 0, .int 0, .int 0, .int 100, .int 200]))] := hD
  refine lv_aload_n hx hb dX11_sail_78 rfl (lv_at hl 0 rfl) ?_
  refine lv_dup hx hb dX11_sail_79 rfl ?_
  refine va_get (D := D) (ci := 11) (v := .int 0) (C := RX11) (T := TX11) (N := 18) hx hb hts iw_X11_sail_X11 hown hKX.1 hP 0 rfl rfl 14 (by decide) (hts (.fieldLink RX11 79 "TrainFerry" "sailings" "I") (by decide +kernel)) (fun _ h9 => h9) rfl dX11_sail_80 ?_
  refine lv_iconst (v := 1) hx hb dX11_sail_83 (by decide) ?_
  refine lv_iadd hx hb dX11_sail_84 ?_
  refine lv_cst 1 (by decide) ?_
  refine va_put (D := D) (ci := 11) (v := .int 1) (ty := .int) (C := RX11) (T := TX11) (N := 18) hx hb hts iw_X11_sail_X11 tyX11 tyX11_ok nmX11 hown hKX.1 hP hD hS 0 rfl rfl 14 (by decide) (hts (.fieldLink RX11 79 "TrainFerry" "sailings" "I") (by decide +kernel)) (fun _ h9 => h9) rfl (by decide +kernel) rfl rfl (Nat.le_of_ble_eq_true rfl) dX11_sail_85 (fun H locs hP hD hS => ?_)
  have hP : va_P D vwCl [(xh, .inr (11, [.ref (xq 0), .ref (xq 23), .ref (xq 38), .ref (xq 39), .ref (xq 42), .ref (xq 43), .null, .null, .int 0, .int 0, .int 0, .int 2, .int 1, .int 10, .int 1, .int 0, .int 5, .int 100])), (xc24 cy xh xq), ((xq 33), .inr (8, [.ref (xq 34), .ref (xq 35), .ref (xq 36), .ref (xq 37), .int 0, .int 0, .int 0, .int 0, .int 100, .int 200]))] H := hP
  have hD : va_D A [(xh, .inr (11, [.ref (xq 0), .ref (xq 23), .ref (xq 38), .ref (xq 39), .ref (xq 42), .ref (xq 43), .null, .null, .int 0, .int 0, .int 0, .int 2, .int 1, .int 10, .int 1, .int 0, .int 5, .int 100])), (xc24 cy xh xq), ((xq 33), .inr (8, [.ref (xq 34), .ref (xq 35), .ref (xq 36), .ref (xq 37), .int 0, .int 0, .int 0, .int 0, .int 100, .int 200]))] := hD
  refine lv_aload_n hx hb dX11_sail_88 rfl (lv_at hl 0 rfl) ?_
  refine va_get (D := D) (ci := 11) (v := .int 10) (C := RX11) (T := TX11) (N := 18) hx hb hts iw_X11_sail_X11 hown hKX.1 hP 0 rfl rfl 13 (by decide) (hts (.fieldLink RX11 76 "TrainFerry" "arrival" "I") (by decide +kernel)) (fun _ h9 => h9) rfl dX11_sail_89 ?_
  exact en_i hx hb hr hlocks () rfl trivial (hP.sub [] rfl) (hD.sub [] (by decide) rfl) hS (Nat.le_of_ble_eq_true rfl) (Nat.le_of_ble_eq_true rfl) dX11_sail_92
theorem iw_X11_step_X11 : ∀ w ∈ wsX110, w ∈ wsX11_step := by decide +kernel
set_option maxHeartbeats 4000000 in
set_option maxRecDepth 100000 in
theorem c_step (l : Launch) (D : va_G) (cy : Nat → ClassId) (xh : Nat) (xq : Nat → Nat) (xi : Int32) (xk : Int32) (sz : Nat) : Met l yX11_step wsX11_step ({ frames := 0, cells := 0, slots := 0, locals := 0 }) (wPre D cy [.ref xh, .int xi, .int xk] sz [(xc0 cy xh xq)]) (wQi D (-1) (fun _ : Unit => True) (fun _u : Unit => []) (va_A [(xc0 cy xh xq)] sz)) 0 0 (va_A [(xc0 cy xh xq)] sz) := by
  refine met_go (y := yX11_step) (ws := wsX11_step) (av := [.ref xh, .int xi, .int xk]) (cc := cX11_step) (maxL := 3) (ret := (some .int)) (Qc := fun A => wQi D (-1) (fun _ : Unit => True) (fun _u : Unit => []) A) (by decide) rfl (Nat.le_of_ble_eq_true rfl) ?_
  intro p e s m below meth c ls A hx hb hr hml hown hts hlocks hname hKX hP hD hA hS hl
  have hown : s.vm.findClass RX11 = some m.cls := hown
  have hl : lv_has ls 3 [(0, .ref xh), (1, .int xi), (2, .int xk)] := hl
  refine lv_aload_n hx hb dX11_step_0 rfl (lv_at hl 0 rfl) ?_
  refine va_get (D := D) (ci := 11) (v := .null) (C := RX11) (T := TX11) (N := 18) hx hb hts iw_X11_step_X11 hown hKX.1 hP 0 rfl rfl 6 (by decide) (hts (.fieldLink RX11 51 "TrainFerry" "loadings" "LTrainFerry$LoadingSearch;") (by decide +kernel)) (fun _ h9 => h9) rfl dX11_step_1 ?_
  refine lv_ifnullN (tgt := 24) hx hb dX11_step_4 (by decide) ?_
  refine lv_iconst (v := (-1)) hx hb dX11_step_24 (by decide) ?_
  exact en_i hx hb hr hlocks () rfl trivial (hP.sub [] rfl) (hD.sub [] (by decide) rfl) hS (Nat.le_of_ble_eq_true rfl) (Nat.le_of_ble_eq_true rfl) dX11_step_25
set_option maxHeartbeats 4000000 in
set_option maxRecDepth 100000 in
theorem c_numberOf (l : Launch) (D : va_G) (cy : Nat → ClassId)  (sz : Nat) : Met l yX11_numberOf wsX11_numberOf ({ frames := 0, cells := 0, slots := 0, locals := 0 }) (wPre D cy [.null] sz []) (wQi D (-1) (fun _ : Unit => True) (fun _u : Unit => []) (va_A [] sz)) 0 0 (va_A [] sz) := by
  refine met_go (y := yX11_numberOf) (ws := wsX11_numberOf) (av := [.null]) (cc := cX11_numberOf) (maxL := 1) (ret := (some .int)) (Qc := fun A => wQi D (-1) (fun _ : Unit => True) (fun _u : Unit => []) A) (by decide) rfl (Nat.le_of_ble_eq_true rfl) ?_
  intro p e s m below meth c ls A hx hb hr hml hown hts hlocks hname hKX hP hD hA hS hl
  have hown : s.vm.findClass RX11 = some m.cls := hown
  have hl : lv_has ls 1 [(0, .null)] := hl
  refine lv_aload_nN hx hb dX11_numberOf_0 rfl (lv_at hl 0 rfl) ?_
  refine lv_ifnonnullN hx hb dX11_numberOf_1 ?_
  refine lv_iconst (v := (-1)) hx hb dX11_numberOf_4 (by decide) ?_
  refine lv_goto (tgt := 12) hx hb dX11_numberOf_5 (by decide) ?_
  exact en_i hx hb hr hlocks () rfl trivial (hP.sub [] rfl) (hD.sub [] (by decide) rfl) hS (Nat.le_of_ble_eq_true rfl) (Nat.le_of_ble_eq_true rfl) dX11_numberOf_12
theorem iw_X11_deck_X11 : ∀ w ∈ wsX110, w ∈ wsX11_deck := by decide +kernel
theorem iw_X11_deck_X2 : ∀ w ∈ wsX20, w ∈ wsX11_deck := by decide +kernel
set_option maxHeartbeats 4000000 in
set_option maxRecDepth 100000 in
theorem c_deck (l : Launch) (D : va_G) (cy : Nat → ClassId) (xh : Nat) (xq : Nat → Nat) (xd : Int32) (xi : Int32) (sz : Nat) : Met l yX11_deck wsX11_deck ({ frames := 2, cells := 0, slots := 0, locals := 43 }) (wPre D cy [.ref xh, .int xd, .int xi] sz [(xc0 cy xh xq), (xc24 cy xh xq), (xc25 cy xh xq), (xc26 cy xh xq), (xc28 cy xh xq), (xc30 cy xh xq), (xc32 cy xh xq)]) (wQi D (-1) (fun _ : Unit => True) (fun _u : Unit => []) (va_A [(xc0 cy xh xq), (xc24 cy xh xq), (xc25 cy xh xq), (xc26 cy xh xq), (xc28 cy xh xq), (xc30 cy xh xq), (xc32 cy xh xq)] sz)) 0 0 (va_A [(xc0 cy xh xq), (xc24 cy xh xq), (xc25 cy xh xq), (xc26 cy xh xq), (xc28 cy xh xq), (xc30 cy xh xq), (xc32 cy xh xq)] sz) := by
  refine met_go (y := yX11_deck) (ws := wsX11_deck) (av := [.ref xh, .int xd, .int xi]) (cc := cX11_deck) (maxL := 3) (ret := (some .int)) (Qc := fun A => wQi D (-1) (fun _ : Unit => True) (fun _u : Unit => []) A) (by decide) rfl (Nat.le_of_ble_eq_true rfl) ?_
  intro p e s m below meth c ls A hx hb hr hml hown hts hlocks hname hKX hP hD hA hS hl
  have hown : s.vm.findClass RX11 = some m.cls := hown
  have hl : lv_has ls 3 [(0, .ref xh), (1, .int xd), (2, .int xi)] := hl
  rcases sp4 xd with rfl | rfl | rfl | rfl | o1
  · refine lv_iload_n hx hb dX11_deck_0 rfl (lv_at hl 1 rfl) ?_
    refine cl_i (wr := [(xc0 cy xh xq), (xc24 cy xh xq), (xc25 cy xh xq), (xc26 cy xh xq), (xc28 cy xh xq), (xc30 cy xh xq), (xc32 cy xh xq)]) (va_runS (As := [.int 0]) (rest := []) ⟨hx, hb, hml, hown, hts⟩ (c_isDeckTrack l D cy 0 _) (va_cwS 1 hts gX11_deck_X11_isDeckTrack rfl rfl rfl (by decide +kernel) ⟨(Nat.le_of_ble_eq_true rfl), (Nat.le_of_ble_eq_true rfl)⟩) (pre_S hKX hP hD [] rfl (by decide) rfl) rfl rfl hl.1 rfl (lv_room (Nat.le_of_ble_eq_true rfl)) dX11_deck_1 ⟨(Nat.le_of_ble_eq_true rfl), (Nat.le_of_ble_eq_true rfl)⟩) hP hD hS hA [] [0, 1, 2, 3, 4, 5, 6] rfl rfl (by decide) (by decide) (fun u2 H locs _ hP hD hS => ?_)
    have hP : va_P D vwCl [(xc0 cy xh xq), (xc24 cy xh xq), (xc25 cy xh xq), (xc26 cy xh xq), (xc28 cy xh xq), (xc30 cy xh xq), (xc32 cy xh xq)] H := hP
    have hD : va_D A [(xc0 cy xh xq), (xc24 cy xh xq), (xc25 cy xh xq), (xc26 cy xh xq), (xc28 cy xh xq), (xc30 cy xh xq), (xc32 cy xh xq)] := hD
    refine lv_cst 1 (by decide) ?_
    refine lv_if_eq (tgt := 26) hx hb dX11_deck_4 (by decide) (fun c9 => absurd c9 (by decide)) (fun _ => ?_)
    refine lv_aload_n hx hb dX11_deck_7 rfl (lv_at hl 0 rfl) ?_
    refine va_get (D := D) (ci := 11) (v := .ref (xq 23)) (C := RX11) (T := TX11) (N := 18) hx hb hts iw_X11_deck_X11 hown hKX.1 hP 0 rfl rfl 1 (by decide) (hts (.fieldLink RX11 19 "TrainFerry" "deck" "LTrainFerry$Deck;") (by decide +kernel)) (fun _ h9 => h9) rfl dX11_deck_8 ?_
    refine va_get (D := D) (ci := 2) (v := .ref (xq 24)) (C := RX2) (T := TX2) (N := 2) hx hb hts iw_X11_deck_X2 hown hKX.1 hP 1 rfl rfl 0 (by decide) (hts (.fieldLink RX11 282 "TrainFerry$Deck" "rows" "[LTrainFerry$Row;") (by decide +kernel)) (fun _ h9 => h9) rfl dX11_deck_11 ?_
    refine lv_iload_n hx hb dX11_deck_14 rfl (lv_at hl 1 rfl) ?_
    refine va_aldq hx hb hKX.1 hP 2 4 rfl rfl (vind (by decide)) dX11_deck_15 ?_
    refine lv_csv (.ref (xq 25)) rfl ?_
    refine lv_iload_n hx hb dX11_deck_16 rfl (lv_at hl 2 rfl) ?_
    refine cl_q (wr := [(xc0 cy xh xq), (xc24 cy xh xq), (xc25 cy xh xq), (xc28 cy xh xq), (xc30 cy xh xq), (xc32 cy xh xq)]) (va_runV (As := [.int xi]) (rest := []) ⟨hx, hb, hml, hown, hts⟩ (c_wagonAt l D cy (xq 25) (xq 26) xi _) (cwV 1 hts gX11_deck_X5_wagonAt rfl rfl rfl (by decide +kernel) ⟨(Nat.le_of_ble_eq_true rfl), (Nat.le_of_ble_eq_true rfl)⟩) (pre_V hKX hP hD (ci := 5) (q0 := 3) rfl rfl [3] rfl (by decide) rfl) rfl rfl hl.1 rfl (lv_room (Nat.le_of_ble_eq_true rfl)) dX11_deck_17 ⟨(Nat.le_of_ble_eq_true rfl), (Nat.le_of_ble_eq_true rfl)⟩) hP hD hS hA [3] [0, 1, 2, 4, 5, 6] rfl rfl (by decide) (by decide) (fun u3 H locs _ hP hD hS => ?_)
    have hP : va_P D vwCl [(xc0 cy xh xq), (xc24 cy xh xq), (xc25 cy xh xq), (xc28 cy xh xq), (xc30 cy xh xq), (xc32 cy xh xq), ((xq 25), .inr (5, [.ref (xq 26), .int 0, .int 0]))] H := hP
    have hD : va_D A [(xc0 cy xh xq), (xc24 cy xh xq), (xc25 cy xh xq), (xc28 cy xh xq), (xc30 cy xh xq), (xc32 cy xh xq), ((xq 25), .inr (5, [.ref (xq 26), .int 0, .int 0]))] := hD
    refine lv_csv (.null) rfl ?_
    refine cl_i (wr := [(xc0 cy xh xq), (xc24 cy xh xq), (xc25 cy xh xq), (xc28 cy xh xq), (xc30 cy xh xq), (xc32 cy xh xq), ((xq 25), .inr (5, [.ref (xq 26), .int 0, .int 0]))]) (va_runS (As := [.null]) (rest := []) ⟨hx, hb, hml, hown, hts⟩ (c_numberOf l D cy  _) (va_cwS 1 hts gX11_deck_X11_numberOf rfl rfl rfl (by decide +kernel) ⟨(Nat.le_of_ble_eq_true rfl), (Nat.le_of_ble_eq_true rfl)⟩) (pre_S hKX hP hD [] rfl (by decide) rfl) rfl rfl hl.1 rfl (lv_room (Nat.le_of_ble_eq_true rfl)) dX11_deck_20 ⟨(Nat.le_of_ble_eq_true rfl), (Nat.le_of_ble_eq_true rfl)⟩) hP hD hS hA [] [0, 1, 2, 3, 4, 5, 6] rfl rfl (by decide) (by decide) (fun u4 H locs _ hP hD hS => ?_)
    have hP : va_P D vwCl [(xc0 cy xh xq), (xc24 cy xh xq), (xc25 cy xh xq), (xc28 cy xh xq), (xc30 cy xh xq), (xc32 cy xh xq), ((xq 25), .inr (5, [.ref (xq 26), .int 0, .int 0]))] H := hP
    have hD : va_D A [(xc0 cy xh xq), (xc24 cy xh xq), (xc25 cy xh xq), (xc28 cy xh xq), (xc30 cy xh xq), (xc32 cy xh xq), ((xq 25), .inr (5, [.ref (xq 26), .int 0, .int 0]))] := hD
    refine lv_goto (tgt := 27) hx hb dX11_deck_23 (by decide) ?_
    exact en_i hx hb hr hlocks () rfl trivial (hP.sub [] rfl) (hD.sub [] (by decide) rfl) hS (Nat.le_of_ble_eq_true rfl) (Nat.le_of_ble_eq_true rfl) dX11_deck_27
  · refine lv_iload_n hx hb dX11_deck_0 rfl (lv_at hl 1 rfl) ?_
    refine cl_i (wr := [(xc0 cy xh xq), (xc24 cy xh xq), (xc25 cy xh xq), (xc26 cy xh xq), (xc28 cy xh xq), (xc30 cy xh xq), (xc32 cy xh xq)]) (va_runS (As := [.int 1]) (rest := []) ⟨hx, hb, hml, hown, hts⟩ (c_isDeckTrack l D cy 1 _) (va_cwS 1 hts gX11_deck_X11_isDeckTrack rfl rfl rfl (by decide +kernel) ⟨(Nat.le_of_ble_eq_true rfl), (Nat.le_of_ble_eq_true rfl)⟩) (pre_S hKX hP hD [] rfl (by decide) rfl) rfl rfl hl.1 rfl (lv_room (Nat.le_of_ble_eq_true rfl)) dX11_deck_1 ⟨(Nat.le_of_ble_eq_true rfl), (Nat.le_of_ble_eq_true rfl)⟩) hP hD hS hA [] [0, 1, 2, 3, 4, 5, 6] rfl rfl (by decide) (by decide) (fun u5 H locs _ hP hD hS => ?_)
    have hP : va_P D vwCl [(xc0 cy xh xq), (xc24 cy xh xq), (xc25 cy xh xq), (xc26 cy xh xq), (xc28 cy xh xq), (xc30 cy xh xq), (xc32 cy xh xq)] H := hP
    have hD : va_D A [(xc0 cy xh xq), (xc24 cy xh xq), (xc25 cy xh xq), (xc26 cy xh xq), (xc28 cy xh xq), (xc30 cy xh xq), (xc32 cy xh xq)] := hD
    refine lv_cst 1 (by decide) ?_
    refine lv_if_eq (tgt := 26) hx hb dX11_deck_4 (by decide) (fun c9 => absurd c9 (by decide)) (fun _ => ?_)
    refine lv_aload_n hx hb dX11_deck_7 rfl (lv_at hl 0 rfl) ?_
    refine va_get (D := D) (ci := 11) (v := .ref (xq 23)) (C := RX11) (T := TX11) (N := 18) hx hb hts iw_X11_deck_X11 hown hKX.1 hP 0 rfl rfl 1 (by decide) (hts (.fieldLink RX11 19 "TrainFerry" "deck" "LTrainFerry$Deck;") (by decide +kernel)) (fun _ h9 => h9) rfl dX11_deck_8 ?_
    refine va_get (D := D) (ci := 2) (v := .ref (xq 24)) (C := RX2) (T := TX2) (N := 2) hx hb hts iw_X11_deck_X2 hown hKX.1 hP 1 rfl rfl 0 (by decide) (hts (.fieldLink RX11 282 "TrainFerry$Deck" "rows" "[LTrainFerry$Row;") (by decide +kernel)) (fun _ h9 => h9) rfl dX11_deck_11 ?_
    refine lv_iload_n hx hb dX11_deck_14 rfl (lv_at hl 1 rfl) ?_
    refine va_aldq hx hb hKX.1 hP 2 4 rfl rfl (vind (by decide)) dX11_deck_15 ?_
    refine lv_csv (.ref (xq 27)) rfl ?_
    refine lv_iload_n hx hb dX11_deck_16 rfl (lv_at hl 2 rfl) ?_
    refine cl_q (wr := [(xc0 cy xh xq), (xc24 cy xh xq), (xc25 cy xh xq), (xc26 cy xh xq), (xc30 cy xh xq), (xc32 cy xh xq)]) (va_runV (As := [.int xi]) (rest := []) ⟨hx, hb, hml, hown, hts⟩ (c_wagonAt l D cy (xq 27) (xq 28) xi _) (cwV 1 hts gX11_deck_X5_wagonAt rfl rfl rfl (by decide +kernel) ⟨(Nat.le_of_ble_eq_true rfl), (Nat.le_of_ble_eq_true rfl)⟩) (pre_V hKX hP hD (ci := 5) (q0 := 4) rfl rfl [4] rfl (by decide) rfl) rfl rfl hl.1 rfl (lv_room (Nat.le_of_ble_eq_true rfl)) dX11_deck_17 ⟨(Nat.le_of_ble_eq_true rfl), (Nat.le_of_ble_eq_true rfl)⟩) hP hD hS hA [4] [0, 1, 2, 3, 5, 6] rfl rfl (by decide) (by decide) (fun u6 H locs _ hP hD hS => ?_)
    have hP : va_P D vwCl [(xc0 cy xh xq), (xc24 cy xh xq), (xc25 cy xh xq), (xc26 cy xh xq), (xc30 cy xh xq), (xc32 cy xh xq), ((xq 27), .inr (5, [.ref (xq 28), .int 0, .int 0]))] H := hP
    have hD : va_D A [(xc0 cy xh xq), (xc24 cy xh xq), (xc25 cy xh xq), (xc26 cy xh xq), (xc30 cy xh xq), (xc32 cy xh xq), ((xq 27), .inr (5, [.ref (xq 28), .int 0, .int 0]))] := hD
    refine lv_csv (.null) rfl ?_
    refine cl_i (wr := [(xc0 cy xh xq), (xc24 cy xh xq), (xc25 cy xh xq), (xc26 cy xh xq), (xc30 cy xh xq), (xc32 cy xh xq), ((xq 27), .inr (5, [.ref (xq 28), .int 0, .int 0]))]) (va_runS (As := [.null]) (rest := []) ⟨hx, hb, hml, hown, hts⟩ (c_numberOf l D cy  _) (va_cwS 1 hts gX11_deck_X11_numberOf rfl rfl rfl (by decide +kernel) ⟨(Nat.le_of_ble_eq_true rfl), (Nat.le_of_ble_eq_true rfl)⟩) (pre_S hKX hP hD [] rfl (by decide) rfl) rfl rfl hl.1 rfl (lv_room (Nat.le_of_ble_eq_true rfl)) dX11_deck_20 ⟨(Nat.le_of_ble_eq_true rfl), (Nat.le_of_ble_eq_true rfl)⟩) hP hD hS hA [] [0, 1, 2, 3, 4, 5, 6] rfl rfl (by decide) (by decide) (fun u7 H locs _ hP hD hS => ?_)
    have hP : va_P D vwCl [(xc0 cy xh xq), (xc24 cy xh xq), (xc25 cy xh xq), (xc26 cy xh xq), (xc30 cy xh xq), (xc32 cy xh xq), ((xq 27), .inr (5, [.ref (xq 28), .int 0, .int 0]))] H := hP
    have hD : va_D A [(xc0 cy xh xq), (xc24 cy xh xq), (xc25 cy xh xq), (xc26 cy xh xq), (xc30 cy xh xq), (xc32 cy xh xq), ((xq 27), .inr (5, [.ref (xq 28), .int 0, .int 0]))] := hD
    refine lv_goto (tgt := 27) hx hb dX11_deck_23 (by decide) ?_
    exact en_i hx hb hr hlocks () rfl trivial (hP.sub [] rfl) (hD.sub [] (by decide) rfl) hS (Nat.le_of_ble_eq_true rfl) (Nat.le_of_ble_eq_true rfl) dX11_deck_27
  · refine lv_iload_n hx hb dX11_deck_0 rfl (lv_at hl 1 rfl) ?_
    refine cl_i (wr := [(xc0 cy xh xq), (xc24 cy xh xq), (xc25 cy xh xq), (xc26 cy xh xq), (xc28 cy xh xq), (xc30 cy xh xq), (xc32 cy xh xq)]) (va_runS (As := [.int 2]) (rest := []) ⟨hx, hb, hml, hown, hts⟩ (c_isDeckTrack l D cy 2 _) (va_cwS 1 hts gX11_deck_X11_isDeckTrack rfl rfl rfl (by decide +kernel) ⟨(Nat.le_of_ble_eq_true rfl), (Nat.le_of_ble_eq_true rfl)⟩) (pre_S hKX hP hD [] rfl (by decide) rfl) rfl rfl hl.1 rfl (lv_room (Nat.le_of_ble_eq_true rfl)) dX11_deck_1 ⟨(Nat.le_of_ble_eq_true rfl), (Nat.le_of_ble_eq_true rfl)⟩) hP hD hS hA [] [0, 1, 2, 3, 4, 5, 6] rfl rfl (by decide) (by decide) (fun u8 H locs _ hP hD hS => ?_)
    have hP : va_P D vwCl [(xc0 cy xh xq), (xc24 cy xh xq), (xc25 cy xh xq), (xc26 cy xh xq), (xc28 cy xh xq), (xc30 cy xh xq), (xc32 cy xh xq)] H := hP
    have hD : va_D A [(xc0 cy xh xq), (xc24 cy xh xq), (xc25 cy xh xq), (xc26 cy xh xq), (xc28 cy xh xq), (xc30 cy xh xq), (xc32 cy xh xq)] := hD
    refine lv_cst 1 (by decide) ?_
    refine lv_if_eq (tgt := 26) hx hb dX11_deck_4 (by decide) (fun c9 => absurd c9 (by decide)) (fun _ => ?_)
    refine lv_aload_n hx hb dX11_deck_7 rfl (lv_at hl 0 rfl) ?_
    refine va_get (D := D) (ci := 11) (v := .ref (xq 23)) (C := RX11) (T := TX11) (N := 18) hx hb hts iw_X11_deck_X11 hown hKX.1 hP 0 rfl rfl 1 (by decide) (hts (.fieldLink RX11 19 "TrainFerry" "deck" "LTrainFerry$Deck;") (by decide +kernel)) (fun _ h9 => h9) rfl dX11_deck_8 ?_
    refine va_get (D := D) (ci := 2) (v := .ref (xq 24)) (C := RX2) (T := TX2) (N := 2) hx hb hts iw_X11_deck_X2 hown hKX.1 hP 1 rfl rfl 0 (by decide) (hts (.fieldLink RX11 282 "TrainFerry$Deck" "rows" "[LTrainFerry$Row;") (by decide +kernel)) (fun _ h9 => h9) rfl dX11_deck_11 ?_
    refine lv_iload_n hx hb dX11_deck_14 rfl (lv_at hl 1 rfl) ?_
    refine va_aldq hx hb hKX.1 hP 2 4 rfl rfl (vind (by decide)) dX11_deck_15 ?_
    refine lv_csv (.ref (xq 29)) rfl ?_
    refine lv_iload_n hx hb dX11_deck_16 rfl (lv_at hl 2 rfl) ?_
    refine cl_q (wr := [(xc0 cy xh xq), (xc24 cy xh xq), (xc25 cy xh xq), (xc26 cy xh xq), (xc28 cy xh xq), (xc32 cy xh xq)]) (va_runV (As := [.int xi]) (rest := []) ⟨hx, hb, hml, hown, hts⟩ (c_wagonAt l D cy (xq 29) (xq 30) xi _) (cwV 1 hts gX11_deck_X5_wagonAt rfl rfl rfl (by decide +kernel) ⟨(Nat.le_of_ble_eq_true rfl), (Nat.le_of_ble_eq_true rfl)⟩) (pre_V hKX hP hD (ci := 5) (q0 := 5) rfl rfl [5] rfl (by decide) rfl) rfl rfl hl.1 rfl (lv_room (Nat.le_of_ble_eq_true rfl)) dX11_deck_17 ⟨(Nat.le_of_ble_eq_true rfl), (Nat.le_of_ble_eq_true rfl)⟩) hP hD hS hA [5] [0, 1, 2, 3, 4, 6] rfl rfl (by decide) (by decide) (fun u9 H locs _ hP hD hS => ?_)
    have hP : va_P D vwCl [(xc0 cy xh xq), (xc24 cy xh xq), (xc25 cy xh xq), (xc26 cy xh xq), (xc28 cy xh xq), (xc32 cy xh xq), ((xq 29), .inr (5, [.ref (xq 30), .int 0, .int 0]))] H := hP
    have hD : va_D A [(xc0 cy xh xq), (xc24 cy xh xq), (xc25 cy xh xq), (xc26 cy xh xq), (xc28 cy xh xq), (xc32 cy xh xq), ((xq 29), .inr (5, [.ref (xq 30), .int 0, .int 0]))] := hD
    refine lv_csv (.null) rfl ?_
    refine cl_i (wr := [(xc0 cy xh xq), (xc24 cy xh xq), (xc25 cy xh xq), (xc26 cy xh xq), (xc28 cy xh xq), (xc32 cy xh xq), ((xq 29), .inr (5, [.ref (xq 30), .int 0, .int 0]))]) (va_runS (As := [.null]) (rest := []) ⟨hx, hb, hml, hown, hts⟩ (c_numberOf l D cy  _) (va_cwS 1 hts gX11_deck_X11_numberOf rfl rfl rfl (by decide +kernel) ⟨(Nat.le_of_ble_eq_true rfl), (Nat.le_of_ble_eq_true rfl)⟩) (pre_S hKX hP hD [] rfl (by decide) rfl) rfl rfl hl.1 rfl (lv_room (Nat.le_of_ble_eq_true rfl)) dX11_deck_20 ⟨(Nat.le_of_ble_eq_true rfl), (Nat.le_of_ble_eq_true rfl)⟩) hP hD hS hA [] [0, 1, 2, 3, 4, 5, 6] rfl rfl (by decide) (by decide) (fun u10 H locs _ hP hD hS => ?_)
    have hP : va_P D vwCl [(xc0 cy xh xq), (xc24 cy xh xq), (xc25 cy xh xq), (xc26 cy xh xq), (xc28 cy xh xq), (xc32 cy xh xq), ((xq 29), .inr (5, [.ref (xq 30), .int 0, .int 0]))] H := hP
    have hD : va_D A [(xc0 cy xh xq), (xc24 cy xh xq), (xc25 cy xh xq), (xc26 cy xh xq), (xc28 cy xh xq), (xc32 cy xh xq), ((xq 29), .inr (5, [.ref (xq 30), .int 0, .int 0]))] := hD
    refine lv_goto (tgt := 27) hx hb dX11_deck_23 (by decide) ?_
    exact en_i hx hb hr hlocks () rfl trivial (hP.sub [] rfl) (hD.sub [] (by decide) rfl) hS (Nat.le_of_ble_eq_true rfl) (Nat.le_of_ble_eq_true rfl) dX11_deck_27
  · refine lv_iload_n hx hb dX11_deck_0 rfl (lv_at hl 1 rfl) ?_
    refine cl_i (wr := [(xc0 cy xh xq), (xc24 cy xh xq), (xc25 cy xh xq), (xc26 cy xh xq), (xc28 cy xh xq), (xc30 cy xh xq), (xc32 cy xh xq)]) (va_runS (As := [.int 3]) (rest := []) ⟨hx, hb, hml, hown, hts⟩ (c_isDeckTrack l D cy 3 _) (va_cwS 1 hts gX11_deck_X11_isDeckTrack rfl rfl rfl (by decide +kernel) ⟨(Nat.le_of_ble_eq_true rfl), (Nat.le_of_ble_eq_true rfl)⟩) (pre_S hKX hP hD [] rfl (by decide) rfl) rfl rfl hl.1 rfl (lv_room (Nat.le_of_ble_eq_true rfl)) dX11_deck_1 ⟨(Nat.le_of_ble_eq_true rfl), (Nat.le_of_ble_eq_true rfl)⟩) hP hD hS hA [] [0, 1, 2, 3, 4, 5, 6] rfl rfl (by decide) (by decide) (fun u11 H locs _ hP hD hS => ?_)
    have hP : va_P D vwCl [(xc0 cy xh xq), (xc24 cy xh xq), (xc25 cy xh xq), (xc26 cy xh xq), (xc28 cy xh xq), (xc30 cy xh xq), (xc32 cy xh xq)] H := hP
    have hD : va_D A [(xc0 cy xh xq), (xc24 cy xh xq), (xc25 cy xh xq), (xc26 cy xh xq), (xc28 cy xh xq), (xc30 cy xh xq), (xc32 cy xh xq)] := hD
    refine lv_cst 1 (by decide) ?_
    refine lv_if_eq (tgt := 26) hx hb dX11_deck_4 (by decide) (fun c9 => absurd c9 (by decide)) (fun _ => ?_)
    refine lv_aload_n hx hb dX11_deck_7 rfl (lv_at hl 0 rfl) ?_
    refine va_get (D := D) (ci := 11) (v := .ref (xq 23)) (C := RX11) (T := TX11) (N := 18) hx hb hts iw_X11_deck_X11 hown hKX.1 hP 0 rfl rfl 1 (by decide) (hts (.fieldLink RX11 19 "TrainFerry" "deck" "LTrainFerry$Deck;") (by decide +kernel)) (fun _ h9 => h9) rfl dX11_deck_8 ?_
    refine va_get (D := D) (ci := 2) (v := .ref (xq 24)) (C := RX2) (T := TX2) (N := 2) hx hb hts iw_X11_deck_X2 hown hKX.1 hP 1 rfl rfl 0 (by decide) (hts (.fieldLink RX11 282 "TrainFerry$Deck" "rows" "[LTrainFerry$Row;") (by decide +kernel)) (fun _ h9 => h9) rfl dX11_deck_11 ?_
    refine lv_iload_n hx hb dX11_deck_14 rfl (lv_at hl 1 rfl) ?_
    refine va_aldq hx hb hKX.1 hP 2 4 rfl rfl (vind (by decide)) dX11_deck_15 ?_
    refine lv_csv (.ref (xq 31)) rfl ?_
    refine lv_iload_n hx hb dX11_deck_16 rfl (lv_at hl 2 rfl) ?_
    refine cl_q (wr := [(xc0 cy xh xq), (xc24 cy xh xq), (xc25 cy xh xq), (xc26 cy xh xq), (xc28 cy xh xq), (xc30 cy xh xq)]) (va_runV (As := [.int xi]) (rest := []) ⟨hx, hb, hml, hown, hts⟩ (c_wagonAt l D cy (xq 31) (xq 32) xi _) (cwV 1 hts gX11_deck_X5_wagonAt rfl rfl rfl (by decide +kernel) ⟨(Nat.le_of_ble_eq_true rfl), (Nat.le_of_ble_eq_true rfl)⟩) (pre_V hKX hP hD (ci := 5) (q0 := 6) rfl rfl [6] rfl (by decide) rfl) rfl rfl hl.1 rfl (lv_room (Nat.le_of_ble_eq_true rfl)) dX11_deck_17 ⟨(Nat.le_of_ble_eq_true rfl), (Nat.le_of_ble_eq_true rfl)⟩) hP hD hS hA [6] [0, 1, 2, 3, 4, 5] rfl rfl (by decide) (by decide) (fun u12 H locs _ hP hD hS => ?_)
    have hP : va_P D vwCl [(xc0 cy xh xq), (xc24 cy xh xq), (xc25 cy xh xq), (xc26 cy xh xq), (xc28 cy xh xq), (xc30 cy xh xq), ((xq 31), .inr (5, [.ref (xq 32), .int 0, .int 0]))] H := hP
    have hD : va_D A [(xc0 cy xh xq), (xc24 cy xh xq), (xc25 cy xh xq), (xc26 cy xh xq), (xc28 cy xh xq), (xc30 cy xh xq), ((xq 31), .inr (5, [.ref (xq 32), .int 0, .int 0]))] := hD
    refine lv_csv (.null) rfl ?_
    refine cl_i (wr := [(xc0 cy xh xq), (xc24 cy xh xq), (xc25 cy xh xq), (xc26 cy xh xq), (xc28 cy xh xq), (xc30 cy xh xq), ((xq 31), .inr (5, [.ref (xq 32), .int 0, .int 0]))]) (va_runS (As := [.null]) (rest := []) ⟨hx, hb, hml, hown, hts⟩ (c_numberOf l D cy  _) (va_cwS 1 hts gX11_deck_X11_numberOf rfl rfl rfl (by decide +kernel) ⟨(Nat.le_of_ble_eq_true rfl), (Nat.le_of_ble_eq_true rfl)⟩) (pre_S hKX hP hD [] rfl (by decide) rfl) rfl rfl hl.1 rfl (lv_room (Nat.le_of_ble_eq_true rfl)) dX11_deck_20 ⟨(Nat.le_of_ble_eq_true rfl), (Nat.le_of_ble_eq_true rfl)⟩) hP hD hS hA [] [0, 1, 2, 3, 4, 5, 6] rfl rfl (by decide) (by decide) (fun u13 H locs _ hP hD hS => ?_)
    have hP : va_P D vwCl [(xc0 cy xh xq), (xc24 cy xh xq), (xc25 cy xh xq), (xc26 cy xh xq), (xc28 cy xh xq), (xc30 cy xh xq), ((xq 31), .inr (5, [.ref (xq 32), .int 0, .int 0]))] H := hP
    have hD : va_D A [(xc0 cy xh xq), (xc24 cy xh xq), (xc25 cy xh xq), (xc26 cy xh xq), (xc28 cy xh xq), (xc30 cy xh xq), ((xq 31), .inr (5, [.ref (xq 32), .int 0, .int 0]))] := hD
    refine lv_goto (tgt := 27) hx hb dX11_deck_23 (by decide) ?_
    exact en_i hx hb hr hlocks () rfl trivial (hP.sub [] rfl) (hD.sub [] (by decide) rfl) hS (Nat.le_of_ble_eq_true rfl) (Nat.le_of_ble_eq_true rfl) dX11_deck_27
  · refine lv_iload_n hx hb dX11_deck_0 rfl (lv_at hl 1 rfl) ?_
    refine cl_i (wr := [(xc0 cy xh xq), (xc24 cy xh xq), (xc25 cy xh xq), (xc26 cy xh xq), (xc28 cy xh xq), (xc30 cy xh xq), (xc32 cy xh xq)]) (va_runS (As := [.int xd]) (rest := []) ⟨hx, hb, hml, hown, hts⟩ (c_isDeckTrack l D cy xd _) (va_cwS 1 hts gX11_deck_X11_isDeckTrack rfl rfl rfl (by decide +kernel) ⟨(Nat.le_of_ble_eq_true rfl), (Nat.le_of_ble_eq_true rfl)⟩) (pre_S hKX hP hD [] rfl (by decide) rfl) rfl rfl hl.1 rfl (lv_room (Nat.le_of_ble_eq_true rfl)) dX11_deck_1 ⟨(Nat.le_of_ble_eq_true rfl), (Nat.le_of_ble_eq_true rfl)⟩) hP hD hS hA [] [0, 1, 2, 3, 4, 5, 6] rfl rfl (by decide) (by decide) (fun u14 H locs _ hP hD hS => ?_)
    have hP : va_P D vwCl [(xc0 cy xh xq), (xc24 cy xh xq), (xc25 cy xh xq), (xc26 cy xh xq), (xc28 cy xh xq), (xc30 cy xh xq), (xc32 cy xh xq)] H := hP
    have hD : va_D A [(xc0 cy xh xq), (xc24 cy xh xq), (xc25 cy xh xq), (xc26 cy xh xq), (xc28 cy xh xq), (xc30 cy xh xq), (xc32 cy xh xq)] := hD
    refine lv_if_eq (tgt := 26) hx hb dX11_deck_4 (by decide) (fun _ => ?_) (fun c9 => absurd o1 c9)
    refine lv_iconst (v := (-1)) hx hb dX11_deck_26 (by decide) ?_
    exact en_i hx hb hr hlocks () rfl trivial (hP.sub [] rfl) (hD.sub [] (by decide) rfl) hS (Nat.le_of_ble_eq_true rfl) (Nat.le_of_ble_eq_true rfl) dX11_deck_27
set_option maxHeartbeats 4000000 in
set_option maxRecDepth 100000 in
theorem c_yard (l : Launch) (D : va_G) (cy : Nat → ClassId) (xh : Nat) (xq : Nat → Nat) (xs : Int32) (xt : Int32) (xi : Int32) (sz : Nat) : Met l yX11_yard wsX11_yard ({ frames := 3, cells := 0, slots := 0, locals := 64 }) (wPre D cy [.ref xh, .int xs, .int xt, .int xi] sz [(xc0 cy xh xq), (xc1 cy xh xq), (xc2 cy xh xq), (xc3 cy xh xq), (xc4 cy xh xq), (xc6 cy xh xq), (xc8 cy xh xq), (xc13 cy xh xq), (xc14 cy xh xq), (xc15 cy xh xq), (xc17 cy xh xq), (xc19 cy xh xq)]) (wQi D (-1) (fun _ : Unit => True) (fun _u : Unit => []) (va_A [(xc0 cy xh xq), (xc1 cy xh xq), (xc2 cy xh xq), (xc3 cy xh xq), (xc4 cy xh xq), (xc6 cy xh xq), (xc8 cy xh xq), (xc13 cy xh xq), (xc14 cy xh xq), (xc15 cy xh xq), (xc17 cy xh xq), (xc19 cy xh xq)] sz)) 0 0 (va_A [(xc0 cy xh xq), (xc1 cy xh xq), (xc2 cy xh xq), (xc3 cy xh xq), (xc4 cy xh xq), (xc6 cy xh xq), (xc8 cy xh xq), (xc13 cy xh xq), (xc14 cy xh xq), (xc15 cy xh xq), (xc17 cy xh xq), (xc19 cy xh xq)] sz) := by
  refine met_go (y := yX11_yard) (ws := wsX11_yard) (av := [.ref xh, .int xs, .int xt, .int xi]) (cc := cX11_yard) (maxL := 5) (ret := (some .int)) (Qc := fun A => wQi D (-1) (fun _ : Unit => True) (fun _u : Unit => []) A) (by decide) rfl (Nat.le_of_ble_eq_true rfl) ?_
  intro p e s m below meth c ls A hx hb hr hml hown hts hlocks hname hKX hP hD hA hS hl
  have hown : s.vm.findClass RX11 = some m.cls := hown
  have hl : lv_has ls 5 [(0, .ref xh), (1, .int xs), (2, .int xt), (3, .int xi)] := hl
  rcases sp2 xs with rfl | rfl | o1
  · rcases sp3 xt with rfl | rfl | rfl | o2
    · refine lv_aload_n hx hb dX11_yard_0 rfl (lv_at hl 0 rfl) ?_
      refine lv_iload_n hx hb dX11_yard_1 rfl (lv_at hl 1 rfl) ?_
      refine lv_iload_n hx hb dX11_yard_2 rfl (lv_at hl 2 rfl) ?_
      refine cl_q (wr := [(xc4 cy xh xq), (xc6 cy xh xq), (xc8 cy xh xq), (xc13 cy xh xq), (xc14 cy xh xq), (xc15 cy xh xq), (xc17 cy xh xq), (xc19 cy xh xq)]) (va_runV (As := [.int 0, .int 0]) (rest := []) ⟨hx, hb, hml, hown, hts⟩ (c_yardRow_00 l D cy xh xq _) (cwV 2 hts gX11_yard_X11_yardRow rfl rfl rfl (by decide +kernel) ⟨(Nat.le_of_ble_eq_true rfl), (Nat.le_of_ble_eq_true rfl)⟩) (pre_V hKX hP hD (ci := 11) (q0 := 0) rfl rfl [0, 1, 2, 3] rfl (by decide) rfl) rfl rfl hl.1 rfl (lv_room (Nat.le_of_ble_eq_true rfl)) dX11_yard_3 ⟨(Nat.le_of_ble_eq_true rfl), (Nat.le_of_ble_eq_true rfl)⟩) hP hD hS hA [0, 1, 2, 3] [4, 5, 6, 7, 8, 9, 10, 11] rfl rfl (by decide) (by decide) (fun u3 H locs _ hP hD hS => ?_)
      have hP : va_P D vwCl [(xc4 cy xh xq), (xc6 cy xh xq), (xc8 cy xh xq), (xc13 cy xh xq), (xc14 cy xh xq), (xc15 cy xh xq), (xc17 cy xh xq), (xc19 cy xh xq), (xc0 cy xh xq), (xc1 cy xh xq), (xc2 cy xh xq), (xc3 cy xh xq)] H := hP
      have hD : va_D A [(xc4 cy xh xq), (xc6 cy xh xq), (xc8 cy xh xq), (xc13 cy xh xq), (xc14 cy xh xq), (xc15 cy xh xq), (xc17 cy xh xq), (xc19 cy xh xq), (xc0 cy xh xq), (xc1 cy xh xq), (xc2 cy xh xq), (xc3 cy xh xq)] := hD
      refine lv_csv (.ref (xq 3)) rfl ?_
      refine lv_astore (lv' := [(4, .ref (xq 3)), (0, .ref xh), (1, .int 0), (2, .int 0), (3, .int xi)]) hx hb dX11_yard_6 hl (by decide) rfl (fun ls hl => ?_)
      refine lv_aload hx hb dX11_yard_8 (lv_at hl 0 rfl) ?_
      refine lv_ifnonnull (tgt := 17) hx hb dX11_yard_10 (by decide) ?_
      refine lv_aload hx hb dX11_yard_17 (lv_at hl 0 rfl) ?_
      refine lv_iload_n hx hb dX11_yard_19 rfl (lv_at hl 4 rfl) ?_
      refine cl_q (wr := [(xc6 cy xh xq), (xc8 cy xh xq), (xc13 cy xh xq), (xc14 cy xh xq), (xc15 cy xh xq), (xc17 cy xh xq), (xc19 cy xh xq), (xc0 cy xh xq), (xc1 cy xh xq), (xc2 cy xh xq), (xc3 cy xh xq)]) (va_runV (As := [.int xi]) (rest := []) ⟨hx, hb, hml, hown, hts⟩ (c_wagonAt l D cy (xq 3) (xq 4) xi _) (cwV 1 hts gX11_yard_X5_wagonAt rfl rfl rfl (by decide +kernel) ⟨(Nat.le_of_ble_eq_true rfl), (Nat.le_of_ble_eq_true rfl)⟩) (pre_V hKX hP hD (ci := 5) (q0 := 0) rfl rfl [0] rfl (by decide) rfl) rfl rfl hl.1 rfl (lv_room (Nat.le_of_ble_eq_true rfl)) dX11_yard_20 ⟨(Nat.le_of_ble_eq_true rfl), (Nat.le_of_ble_eq_true rfl)⟩) hP hD hS hA [0] [1, 2, 3, 4, 5, 6, 7, 8, 9, 10, 11] rfl rfl (by decide) (by decide) (fun u4 H locs _ hP hD hS => ?_)
      have hP : va_P D vwCl [(xc6 cy xh xq), (xc8 cy xh xq), (xc13 cy xh xq), (xc14 cy xh xq), (xc15 cy xh xq), (xc17 cy xh xq), (xc19 cy xh xq), (xc0 cy xh xq), (xc1 cy xh xq), (xc2 cy xh xq), (xc3 cy xh xq), ((xq 3), .inr (5, [.ref (xq 4), .int 0, .int 0]))] H := hP
      have hD : va_D A [(xc6 cy xh xq), (xc8 cy xh xq), (xc13 cy xh xq), (xc14 cy xh xq), (xc15 cy xh xq), (xc17 cy xh xq), (xc19 cy xh xq), (xc0 cy xh xq), (xc1 cy xh xq), (xc2 cy xh xq), (xc3 cy xh xq), ((xq 3), .inr (5, [.ref (xq 4), .int 0, .int 0]))] := hD
      refine lv_csv (.null) rfl ?_
      refine cl_i (wr := [(xc6 cy xh xq), (xc8 cy xh xq), (xc13 cy xh xq), (xc14 cy xh xq), (xc15 cy xh xq), (xc17 cy xh xq), (xc19 cy xh xq), (xc0 cy xh xq), (xc1 cy xh xq), (xc2 cy xh xq), (xc3 cy xh xq), ((xq 3), .inr (5, [.ref (xq 4), .int 0, .int 0]))]) (va_runS (As := [.null]) (rest := []) ⟨hx, hb, hml, hown, hts⟩ (c_numberOf l D cy  _) (va_cwS 1 hts gX11_yard_X11_numberOf rfl rfl rfl (by decide +kernel) ⟨(Nat.le_of_ble_eq_true rfl), (Nat.le_of_ble_eq_true rfl)⟩) (pre_S hKX hP hD [] rfl (by decide) rfl) rfl rfl hl.1 rfl (lv_room (Nat.le_of_ble_eq_true rfl)) dX11_yard_23 ⟨(Nat.le_of_ble_eq_true rfl), (Nat.le_of_ble_eq_true rfl)⟩) hP hD hS hA [] [0, 1, 2, 3, 4, 5, 6, 7, 8, 9, 10, 11] rfl rfl (by decide) (by decide) (fun u5 H locs _ hP hD hS => ?_)
      have hP : va_P D vwCl [(xc6 cy xh xq), (xc8 cy xh xq), (xc13 cy xh xq), (xc14 cy xh xq), (xc15 cy xh xq), (xc17 cy xh xq), (xc19 cy xh xq), (xc0 cy xh xq), (xc1 cy xh xq), (xc2 cy xh xq), (xc3 cy xh xq), ((xq 3), .inr (5, [.ref (xq 4), .int 0, .int 0]))] H := hP
      have hD : va_D A [(xc6 cy xh xq), (xc8 cy xh xq), (xc13 cy xh xq), (xc14 cy xh xq), (xc15 cy xh xq), (xc17 cy xh xq), (xc19 cy xh xq), (xc0 cy xh xq), (xc1 cy xh xq), (xc2 cy xh xq), (xc3 cy xh xq), ((xq 3), .inr (5, [.ref (xq 4), .int 0, .int 0]))] := hD
      exact en_i hx hb hr hlocks () rfl trivial (hP.sub [] rfl) (hD.sub [] (by decide) rfl) hS (Nat.le_of_ble_eq_true rfl) (Nat.le_of_ble_eq_true rfl) dX11_yard_26
    · refine lv_aload_n hx hb dX11_yard_0 rfl (lv_at hl 0 rfl) ?_
      refine lv_iload_n hx hb dX11_yard_1 rfl (lv_at hl 1 rfl) ?_
      refine lv_iload_n hx hb dX11_yard_2 rfl (lv_at hl 2 rfl) ?_
      refine cl_q (wr := [(xc4 cy xh xq), (xc6 cy xh xq), (xc8 cy xh xq), (xc13 cy xh xq), (xc14 cy xh xq), (xc15 cy xh xq), (xc17 cy xh xq), (xc19 cy xh xq)]) (va_runV (As := [.int 0, .int 1]) (rest := []) ⟨hx, hb, hml, hown, hts⟩ (c_yardRow_01 l D cy xh xq _) (cwV 2 hts gX11_yard_X11_yardRow rfl rfl rfl (by decide +kernel) ⟨(Nat.le_of_ble_eq_true rfl), (Nat.le_of_ble_eq_true rfl)⟩) (pre_V hKX hP hD (ci := 11) (q0 := 0) rfl rfl [0, 1, 2, 3] rfl (by decide) rfl) rfl rfl hl.1 rfl (lv_room (Nat.le_of_ble_eq_true rfl)) dX11_yard_3 ⟨(Nat.le_of_ble_eq_true rfl), (Nat.le_of_ble_eq_true rfl)⟩) hP hD hS hA [0, 1, 2, 3] [4, 5, 6, 7, 8, 9, 10, 11] rfl rfl (by decide) (by decide) (fun u6 H locs _ hP hD hS => ?_)
      have hP : va_P D vwCl [(xc4 cy xh xq), (xc6 cy xh xq), (xc8 cy xh xq), (xc13 cy xh xq), (xc14 cy xh xq), (xc15 cy xh xq), (xc17 cy xh xq), (xc19 cy xh xq), (xc0 cy xh xq), (xc1 cy xh xq), (xc2 cy xh xq), (xc3 cy xh xq)] H := hP
      have hD : va_D A [(xc4 cy xh xq), (xc6 cy xh xq), (xc8 cy xh xq), (xc13 cy xh xq), (xc14 cy xh xq), (xc15 cy xh xq), (xc17 cy xh xq), (xc19 cy xh xq), (xc0 cy xh xq), (xc1 cy xh xq), (xc2 cy xh xq), (xc3 cy xh xq)] := hD
      refine lv_csv (.ref (xq 5)) rfl ?_
      refine lv_astore (lv' := [(4, .ref (xq 5)), (0, .ref xh), (1, .int 0), (2, .int 1), (3, .int xi)]) hx hb dX11_yard_6 hl (by decide) rfl (fun ls hl => ?_)
      refine lv_aload hx hb dX11_yard_8 (lv_at hl 0 rfl) ?_
      refine lv_ifnonnull (tgt := 17) hx hb dX11_yard_10 (by decide) ?_
      refine lv_aload hx hb dX11_yard_17 (lv_at hl 0 rfl) ?_
      refine lv_iload_n hx hb dX11_yard_19 rfl (lv_at hl 4 rfl) ?_
      refine cl_q (wr := [(xc4 cy xh xq), (xc8 cy xh xq), (xc13 cy xh xq), (xc14 cy xh xq), (xc15 cy xh xq), (xc17 cy xh xq), (xc19 cy xh xq), (xc0 cy xh xq), (xc1 cy xh xq), (xc2 cy xh xq), (xc3 cy xh xq)]) (va_runV (As := [.int xi]) (rest := []) ⟨hx, hb, hml, hown, hts⟩ (c_wagonAt l D cy (xq 5) (xq 6) xi _) (cwV 1 hts gX11_yard_X5_wagonAt rfl rfl rfl (by decide +kernel) ⟨(Nat.le_of_ble_eq_true rfl), (Nat.le_of_ble_eq_true rfl)⟩) (pre_V hKX hP hD (ci := 5) (q0 := 1) rfl rfl [1] rfl (by decide) rfl) rfl rfl hl.1 rfl (lv_room (Nat.le_of_ble_eq_true rfl)) dX11_yard_20 ⟨(Nat.le_of_ble_eq_true rfl), (Nat.le_of_ble_eq_true rfl)⟩) hP hD hS hA [1] [0, 2, 3, 4, 5, 6, 7, 8, 9, 10, 11] rfl rfl (by decide) (by decide) (fun u7 H locs _ hP hD hS => ?_)
      have hP : va_P D vwCl [(xc4 cy xh xq), (xc8 cy xh xq), (xc13 cy xh xq), (xc14 cy xh xq), (xc15 cy xh xq), (xc17 cy xh xq), (xc19 cy xh xq), (xc0 cy xh xq), (xc1 cy xh xq), (xc2 cy xh xq), (xc3 cy xh xq), ((xq 5), .inr (5, [.ref (xq 6), .int 0, .int 0]))] H := hP
      have hD : va_D A [(xc4 cy xh xq), (xc8 cy xh xq), (xc13 cy xh xq), (xc14 cy xh xq), (xc15 cy xh xq), (xc17 cy xh xq), (xc19 cy xh xq), (xc0 cy xh xq), (xc1 cy xh xq), (xc2 cy xh xq), (xc3 cy xh xq), ((xq 5), .inr (5, [.ref (xq 6), .int 0, .int 0]))] := hD
      refine lv_csv (.null) rfl ?_
      refine cl_i (wr := [(xc4 cy xh xq), (xc8 cy xh xq), (xc13 cy xh xq), (xc14 cy xh xq), (xc15 cy xh xq), (xc17 cy xh xq), (xc19 cy xh xq), (xc0 cy xh xq), (xc1 cy xh xq), (xc2 cy xh xq), (xc3 cy xh xq), ((xq 5), .inr (5, [.ref (xq 6), .int 0, .int 0]))]) (va_runS (As := [.null]) (rest := []) ⟨hx, hb, hml, hown, hts⟩ (c_numberOf l D cy  _) (va_cwS 1 hts gX11_yard_X11_numberOf rfl rfl rfl (by decide +kernel) ⟨(Nat.le_of_ble_eq_true rfl), (Nat.le_of_ble_eq_true rfl)⟩) (pre_S hKX hP hD [] rfl (by decide) rfl) rfl rfl hl.1 rfl (lv_room (Nat.le_of_ble_eq_true rfl)) dX11_yard_23 ⟨(Nat.le_of_ble_eq_true rfl), (Nat.le_of_ble_eq_true rfl)⟩) hP hD hS hA [] [0, 1, 2, 3, 4, 5, 6, 7, 8, 9, 10, 11] rfl rfl (by decide) (by decide) (fun u8 H locs _ hP hD hS => ?_)
      have hP : va_P D vwCl [(xc4 cy xh xq), (xc8 cy xh xq), (xc13 cy xh xq), (xc14 cy xh xq), (xc15 cy xh xq), (xc17 cy xh xq), (xc19 cy xh xq), (xc0 cy xh xq), (xc1 cy xh xq), (xc2 cy xh xq), (xc3 cy xh xq), ((xq 5), .inr (5, [.ref (xq 6), .int 0, .int 0]))] H := hP
      have hD : va_D A [(xc4 cy xh xq), (xc8 cy xh xq), (xc13 cy xh xq), (xc14 cy xh xq), (xc15 cy xh xq), (xc17 cy xh xq), (xc19 cy xh xq), (xc0 cy xh xq), (xc1 cy xh xq), (xc2 cy xh xq), (xc3 cy xh xq), ((xq 5), .inr (5, [.ref (xq 6), .int 0, .int 0]))] := hD
      exact en_i hx hb hr hlocks () rfl trivial (hP.sub [] rfl) (hD.sub [] (by decide) rfl) hS (Nat.le_of_ble_eq_true rfl) (Nat.le_of_ble_eq_true rfl) dX11_yard_26
    · refine lv_aload_n hx hb dX11_yard_0 rfl (lv_at hl 0 rfl) ?_
      refine lv_iload_n hx hb dX11_yard_1 rfl (lv_at hl 1 rfl) ?_
      refine lv_iload_n hx hb dX11_yard_2 rfl (lv_at hl 2 rfl) ?_
      refine cl_q (wr := [(xc4 cy xh xq), (xc6 cy xh xq), (xc8 cy xh xq), (xc13 cy xh xq), (xc14 cy xh xq), (xc15 cy xh xq), (xc17 cy xh xq), (xc19 cy xh xq)]) (va_runV (As := [.int 0, .int 2]) (rest := []) ⟨hx, hb, hml, hown, hts⟩ (c_yardRow_02 l D cy xh xq _) (cwV 2 hts gX11_yard_X11_yardRow rfl rfl rfl (by decide +kernel) ⟨(Nat.le_of_ble_eq_true rfl), (Nat.le_of_ble_eq_true rfl)⟩) (pre_V hKX hP hD (ci := 11) (q0 := 0) rfl rfl [0, 1, 2, 3] rfl (by decide) rfl) rfl rfl hl.1 rfl (lv_room (Nat.le_of_ble_eq_true rfl)) dX11_yard_3 ⟨(Nat.le_of_ble_eq_true rfl), (Nat.le_of_ble_eq_true rfl)⟩) hP hD hS hA [0, 1, 2, 3] [4, 5, 6, 7, 8, 9, 10, 11] rfl rfl (by decide) (by decide) (fun u9 H locs _ hP hD hS => ?_)
      have hP : va_P D vwCl [(xc4 cy xh xq), (xc6 cy xh xq), (xc8 cy xh xq), (xc13 cy xh xq), (xc14 cy xh xq), (xc15 cy xh xq), (xc17 cy xh xq), (xc19 cy xh xq), (xc0 cy xh xq), (xc1 cy xh xq), (xc2 cy xh xq), (xc3 cy xh xq)] H := hP
      have hD : va_D A [(xc4 cy xh xq), (xc6 cy xh xq), (xc8 cy xh xq), (xc13 cy xh xq), (xc14 cy xh xq), (xc15 cy xh xq), (xc17 cy xh xq), (xc19 cy xh xq), (xc0 cy xh xq), (xc1 cy xh xq), (xc2 cy xh xq), (xc3 cy xh xq)] := hD
      refine lv_csv (.ref (xq 7)) rfl ?_
      refine lv_astore (lv' := [(4, .ref (xq 7)), (0, .ref xh), (1, .int 0), (2, .int 2), (3, .int xi)]) hx hb dX11_yard_6 hl (by decide) rfl (fun ls hl => ?_)
      refine lv_aload hx hb dX11_yard_8 (lv_at hl 0 rfl) ?_
      refine lv_ifnonnull (tgt := 17) hx hb dX11_yard_10 (by decide) ?_
      refine lv_aload hx hb dX11_yard_17 (lv_at hl 0 rfl) ?_
      refine lv_iload_n hx hb dX11_yard_19 rfl (lv_at hl 4 rfl) ?_
      refine cl_q (wr := [(xc4 cy xh xq), (xc6 cy xh xq), (xc13 cy xh xq), (xc14 cy xh xq), (xc15 cy xh xq), (xc17 cy xh xq), (xc19 cy xh xq), (xc0 cy xh xq), (xc1 cy xh xq), (xc2 cy xh xq), (xc3 cy xh xq)]) (va_runV (As := [.int xi]) (rest := []) ⟨hx, hb, hml, hown, hts⟩ (c_wagonAt l D cy (xq 7) (xq 8) xi _) (cwV 1 hts gX11_yard_X5_wagonAt rfl rfl rfl (by decide +kernel) ⟨(Nat.le_of_ble_eq_true rfl), (Nat.le_of_ble_eq_true rfl)⟩) (pre_V hKX hP hD (ci := 5) (q0 := 2) rfl rfl [2] rfl (by decide) rfl) rfl rfl hl.1 rfl (lv_room (Nat.le_of_ble_eq_true rfl)) dX11_yard_20 ⟨(Nat.le_of_ble_eq_true rfl), (Nat.le_of_ble_eq_true rfl)⟩) hP hD hS hA [2] [0, 1, 3, 4, 5, 6, 7, 8, 9, 10, 11] rfl rfl (by decide) (by decide) (fun u10 H locs _ hP hD hS => ?_)
      have hP : va_P D vwCl [(xc4 cy xh xq), (xc6 cy xh xq), (xc13 cy xh xq), (xc14 cy xh xq), (xc15 cy xh xq), (xc17 cy xh xq), (xc19 cy xh xq), (xc0 cy xh xq), (xc1 cy xh xq), (xc2 cy xh xq), (xc3 cy xh xq), ((xq 7), .inr (5, [.ref (xq 8), .int 0, .int 0]))] H := hP
      have hD : va_D A [(xc4 cy xh xq), (xc6 cy xh xq), (xc13 cy xh xq), (xc14 cy xh xq), (xc15 cy xh xq), (xc17 cy xh xq), (xc19 cy xh xq), (xc0 cy xh xq), (xc1 cy xh xq), (xc2 cy xh xq), (xc3 cy xh xq), ((xq 7), .inr (5, [.ref (xq 8), .int 0, .int 0]))] := hD
      refine lv_csv (.null) rfl ?_
      refine cl_i (wr := [(xc4 cy xh xq), (xc6 cy xh xq), (xc13 cy xh xq), (xc14 cy xh xq), (xc15 cy xh xq), (xc17 cy xh xq), (xc19 cy xh xq), (xc0 cy xh xq), (xc1 cy xh xq), (xc2 cy xh xq), (xc3 cy xh xq), ((xq 7), .inr (5, [.ref (xq 8), .int 0, .int 0]))]) (va_runS (As := [.null]) (rest := []) ⟨hx, hb, hml, hown, hts⟩ (c_numberOf l D cy  _) (va_cwS 1 hts gX11_yard_X11_numberOf rfl rfl rfl (by decide +kernel) ⟨(Nat.le_of_ble_eq_true rfl), (Nat.le_of_ble_eq_true rfl)⟩) (pre_S hKX hP hD [] rfl (by decide) rfl) rfl rfl hl.1 rfl (lv_room (Nat.le_of_ble_eq_true rfl)) dX11_yard_23 ⟨(Nat.le_of_ble_eq_true rfl), (Nat.le_of_ble_eq_true rfl)⟩) hP hD hS hA [] [0, 1, 2, 3, 4, 5, 6, 7, 8, 9, 10, 11] rfl rfl (by decide) (by decide) (fun u11 H locs _ hP hD hS => ?_)
      have hP : va_P D vwCl [(xc4 cy xh xq), (xc6 cy xh xq), (xc13 cy xh xq), (xc14 cy xh xq), (xc15 cy xh xq), (xc17 cy xh xq), (xc19 cy xh xq), (xc0 cy xh xq), (xc1 cy xh xq), (xc2 cy xh xq), (xc3 cy xh xq), ((xq 7), .inr (5, [.ref (xq 8), .int 0, .int 0]))] H := hP
      have hD : va_D A [(xc4 cy xh xq), (xc6 cy xh xq), (xc13 cy xh xq), (xc14 cy xh xq), (xc15 cy xh xq), (xc17 cy xh xq), (xc19 cy xh xq), (xc0 cy xh xq), (xc1 cy xh xq), (xc2 cy xh xq), (xc3 cy xh xq), ((xq 7), .inr (5, [.ref (xq 8), .int 0, .int 0]))] := hD
      exact en_i hx hb hr hlocks () rfl trivial (hP.sub [] rfl) (hD.sub [] (by decide) rfl) hS (Nat.le_of_ble_eq_true rfl) (Nat.le_of_ble_eq_true rfl) dX11_yard_26
    · refine lv_aload_n hx hb dX11_yard_0 rfl (lv_at hl 0 rfl) ?_
      refine lv_iload_n hx hb dX11_yard_1 rfl (lv_at hl 1 rfl) ?_
      refine lv_iload_n hx hb dX11_yard_2 rfl (lv_at hl 2 rfl) ?_
      refine cl_q (wr := [(xc0 cy xh xq), (xc1 cy xh xq), (xc2 cy xh xq), (xc3 cy xh xq), (xc4 cy xh xq), (xc6 cy xh xq), (xc8 cy xh xq), (xc13 cy xh xq), (xc14 cy xh xq), (xc15 cy xh xq), (xc17 cy xh xq), (xc19 cy xh xq)]) (va_runV (As := [.int 0, .int xt]) (rest := []) ⟨hx, hb, hml, hown, hts⟩ (c_yardRow_t l D cy xh xq 0 xt o2 _) (cwV 2 hts gX11_yard_X11_yardRow rfl rfl rfl (by decide +kernel) ⟨(Nat.le_of_ble_eq_true rfl), (Nat.le_of_ble_eq_true rfl)⟩) (pre_V hKX hP hD (ci := 11) (q0 := 0) rfl rfl [] rfl (by decide) rfl) rfl rfl hl.1 rfl (lv_room (Nat.le_of_ble_eq_true rfl)) dX11_yard_3 ⟨(Nat.le_of_ble_eq_true rfl), (Nat.le_of_ble_eq_true rfl)⟩) hP hD hS hA [] [0, 1, 2, 3, 4, 5, 6, 7, 8, 9, 10, 11] rfl rfl (by decide) (by decide) (fun u12 H locs _ hP hD hS => ?_)
      have hP : va_P D vwCl [(xc0 cy xh xq), (xc1 cy xh xq), (xc2 cy xh xq), (xc3 cy xh xq), (xc4 cy xh xq), (xc6 cy xh xq), (xc8 cy xh xq), (xc13 cy xh xq), (xc14 cy xh xq), (xc15 cy xh xq), (xc17 cy xh xq), (xc19 cy xh xq)] H := hP
      have hD : va_D A [(xc0 cy xh xq), (xc1 cy xh xq), (xc2 cy xh xq), (xc3 cy xh xq), (xc4 cy xh xq), (xc6 cy xh xq), (xc8 cy xh xq), (xc13 cy xh xq), (xc14 cy xh xq), (xc15 cy xh xq), (xc17 cy xh xq), (xc19 cy xh xq)] := hD
      refine lv_csv (.null) rfl ?_
      refine lv_astoreN (lv' := [(4, .null), (0, .ref xh), (1, .int 0), (2, .int xt), (3, .int xi)]) hx hb dX11_yard_6 hl (by decide) rfl (fun ls hl => ?_)
      refine lv_aloadN hx hb dX11_yard_8 (lv_at hl 0 rfl) ?_
      refine lv_ifnonnullN hx hb dX11_yard_10 ?_
      refine lv_iconst (v := (-1)) hx hb dX11_yard_13 (by decide) ?_
      refine lv_goto (tgt := 26) hx hb dX11_yard_14 (by decide) ?_
      exact en_i hx hb hr hlocks () rfl trivial (hP.sub [] rfl) (hD.sub [] (by decide) rfl) hS (Nat.le_of_ble_eq_true rfl) (Nat.le_of_ble_eq_true rfl) dX11_yard_26
  · rcases sp3 xt with rfl | rfl | rfl | o13
    · refine lv_aload_n hx hb dX11_yard_0 rfl (lv_at hl 0 rfl) ?_
      refine lv_iload_n hx hb dX11_yard_1 rfl (lv_at hl 1 rfl) ?_
      refine lv_iload_n hx hb dX11_yard_2 rfl (lv_at hl 2 rfl) ?_
      refine cl_q (wr := [(xc2 cy xh xq), (xc3 cy xh xq), (xc4 cy xh xq), (xc6 cy xh xq), (xc8 cy xh xq), (xc15 cy xh xq), (xc17 cy xh xq), (xc19 cy xh xq)]) (va_runV (As := [.int 1, .int 0]) (rest := []) ⟨hx, hb, hml, hown, hts⟩ (c_yardRow_10 l D cy xh xq _) (cwV 2 hts gX11_yard_X11_yardRow rfl rfl rfl (by decide +kernel) ⟨(Nat.le_of_ble_eq_true rfl), (Nat.le_of_ble_eq_true rfl)⟩) (pre_V hKX hP hD (ci := 11) (q0 := 0) rfl rfl [0, 1, 7, 8] rfl (by decide) rfl) rfl rfl hl.1 rfl (lv_room (Nat.le_of_ble_eq_true rfl)) dX11_yard_3 ⟨(Nat.le_of_ble_eq_true rfl), (Nat.le_of_ble_eq_true rfl)⟩) hP hD hS hA [0, 1, 7, 8] [2, 3, 4, 5, 6, 9, 10, 11] rfl rfl (by decide) (by decide) (fun u14 H locs _ hP hD hS => ?_)
      have hP : va_P D vwCl [(xc2 cy xh xq), (xc3 cy xh xq), (xc4 cy xh xq), (xc6 cy xh xq), (xc8 cy xh xq), (xc15 cy xh xq), (xc17 cy xh xq), (xc19 cy xh xq), (xc0 cy xh xq), (xc1 cy xh xq), (xc13 cy xh xq), (xc14 cy xh xq)] H := hP
      have hD : va_D A [(xc2 cy xh xq), (xc3 cy xh xq), (xc4 cy xh xq), (xc6 cy xh xq), (xc8 cy xh xq), (xc15 cy xh xq), (xc17 cy xh xq), (xc19 cy xh xq), (xc0 cy xh xq), (xc1 cy xh xq), (xc13 cy xh xq), (xc14 cy xh xq)] := hD
      refine lv_csv (.ref (xq 14)) rfl ?_
      refine lv_astore (lv' := [(4, .ref (xq 14)), (0, .ref xh), (1, .int 1), (2, .int 0), (3, .int xi)]) hx hb dX11_yard_6 hl (by decide) rfl (fun ls hl => ?_)
      refine lv_aload hx hb dX11_yard_8 (lv_at hl 0 rfl) ?_
      refine lv_ifnonnull (tgt := 17) hx hb dX11_yard_10 (by decide) ?_
      refine lv_aload hx hb dX11_yard_17 (lv_at hl 0 rfl) ?_
      refine lv_iload_n hx hb dX11_yard_19 rfl (lv_at hl 4 rfl) ?_
      refine cl_q (wr := [(xc2 cy xh xq), (xc3 cy xh xq), (xc4 cy xh xq), (xc6 cy xh xq), (xc8 cy xh xq), (xc17 cy xh xq), (xc19 cy xh xq), (xc0 cy xh xq), (xc1 cy xh xq), (xc13 cy xh xq), (xc14 cy xh xq)]) (va_runV (As := [.int xi]) (rest := []) ⟨hx, hb, hml, hown, hts⟩ (c_wagonAt l D cy (xq 14) (xq 15) xi _) (cwV 1 hts gX11_yard_X5_wagonAt rfl rfl rfl (by decide +kernel) ⟨(Nat.le_of_ble_eq_true rfl), (Nat.le_of_ble_eq_true rfl)⟩) (pre_V hKX hP hD (ci := 5) (q0 := 5) rfl rfl [5] rfl (by decide) rfl) rfl rfl hl.1 rfl (lv_room (Nat.le_of_ble_eq_true rfl)) dX11_yard_20 ⟨(Nat.le_of_ble_eq_true rfl), (Nat.le_of_ble_eq_true rfl)⟩) hP hD hS hA [5] [0, 1, 2, 3, 4, 6, 7, 8, 9, 10, 11] rfl rfl (by decide) (by decide) (fun u15 H locs _ hP hD hS => ?_)
      have hP : va_P D vwCl [(xc2 cy xh xq), (xc3 cy xh xq), (xc4 cy xh xq), (xc6 cy xh xq), (xc8 cy xh xq), (xc17 cy xh xq), (xc19 cy xh xq), (xc0 cy xh xq), (xc1 cy xh xq), (xc13 cy xh xq), (xc14 cy xh xq), ((xq 14), .inr (5, [.ref (xq 15), .int 0, .int 0]))] H := hP
      have hD : va_D A [(xc2 cy xh xq), (xc3 cy xh xq), (xc4 cy xh xq), (xc6 cy xh xq), (xc8 cy xh xq), (xc17 cy xh xq), (xc19 cy xh xq), (xc0 cy xh xq), (xc1 cy xh xq), (xc13 cy xh xq), (xc14 cy xh xq), ((xq 14), .inr (5, [.ref (xq 15), .int 0, .int 0]))] := hD
      refine lv_csv (.null) rfl ?_
      refine cl_i (wr := [(xc2 cy xh xq), (xc3 cy xh xq), (xc4 cy xh xq), (xc6 cy xh xq), (xc8 cy xh xq), (xc17 cy xh xq), (xc19 cy xh xq), (xc0 cy xh xq), (xc1 cy xh xq), (xc13 cy xh xq), (xc14 cy xh xq), ((xq 14), .inr (5, [.ref (xq 15), .int 0, .int 0]))]) (va_runS (As := [.null]) (rest := []) ⟨hx, hb, hml, hown, hts⟩ (c_numberOf l D cy  _) (va_cwS 1 hts gX11_yard_X11_numberOf rfl rfl rfl (by decide +kernel) ⟨(Nat.le_of_ble_eq_true rfl), (Nat.le_of_ble_eq_true rfl)⟩) (pre_S hKX hP hD [] rfl (by decide) rfl) rfl rfl hl.1 rfl (lv_room (Nat.le_of_ble_eq_true rfl)) dX11_yard_23 ⟨(Nat.le_of_ble_eq_true rfl), (Nat.le_of_ble_eq_true rfl)⟩) hP hD hS hA [] [0, 1, 2, 3, 4, 5, 6, 7, 8, 9, 10, 11] rfl rfl (by decide) (by decide) (fun u16 H locs _ hP hD hS => ?_)
      have hP : va_P D vwCl [(xc2 cy xh xq), (xc3 cy xh xq), (xc4 cy xh xq), (xc6 cy xh xq), (xc8 cy xh xq), (xc17 cy xh xq), (xc19 cy xh xq), (xc0 cy xh xq), (xc1 cy xh xq), (xc13 cy xh xq), (xc14 cy xh xq), ((xq 14), .inr (5, [.ref (xq 15), .int 0, .int 0]))] H := hP
      have hD : va_D A [(xc2 cy xh xq), (xc3 cy xh xq), (xc4 cy xh xq), (xc6 cy xh xq), (xc8 cy xh xq), (xc17 cy xh xq), (xc19 cy xh xq), (xc0 cy xh xq), (xc1 cy xh xq), (xc13 cy xh xq), (xc14 cy xh xq), ((xq 14), .inr (5, [.ref (xq 15), .int 0, .int 0]))] := hD
      exact en_i hx hb hr hlocks () rfl trivial (hP.sub [] rfl) (hD.sub [] (by decide) rfl) hS (Nat.le_of_ble_eq_true rfl) (Nat.le_of_ble_eq_true rfl) dX11_yard_26
    · refine lv_aload_n hx hb dX11_yard_0 rfl (lv_at hl 0 rfl) ?_
      refine lv_iload_n hx hb dX11_yard_1 rfl (lv_at hl 1 rfl) ?_
      refine lv_iload_n hx hb dX11_yard_2 rfl (lv_at hl 2 rfl) ?_
      refine cl_q (wr := [(xc2 cy xh xq), (xc3 cy xh xq), (xc4 cy xh xq), (xc6 cy xh xq), (xc8 cy xh xq), (xc15 cy xh xq), (xc17 cy xh xq), (xc19 cy xh xq)]) (va_runV (As := [.int 1, .int 1]) (rest := []) ⟨hx, hb, hml, hown, hts⟩ (c_yardRow_11 l D cy xh xq _) (cwV 2 hts gX11_yard_X11_yardRow rfl rfl rfl (by decide +kernel) ⟨(Nat.le_of_ble_eq_true rfl), (Nat.le_of_ble_eq_true rfl)⟩) (pre_V hKX hP hD (ci := 11) (q0 := 0) rfl rfl [0, 1, 7, 8] rfl (by decide) rfl) rfl rfl hl.1 rfl (lv_room (Nat.le_of_ble_eq_true rfl)) dX11_yard_3 ⟨(Nat.le_of_ble_eq_true rfl), (Nat.le_of_ble_eq_true rfl)⟩) hP hD hS hA [0, 1, 7, 8] [2, 3, 4, 5, 6, 9, 10, 11] rfl rfl (by decide) (by decide) (fun u17 H locs _ hP hD hS => ?_)
      have hP : va_P D vwCl [(xc2 cy xh xq), (xc3 cy xh xq), (xc4 cy xh xq), (xc6 cy xh xq), (xc8 cy xh xq), (xc15 cy xh xq), (xc17 cy xh xq), (xc19 cy xh xq), (xc0 cy xh xq), (xc1 cy xh xq), (xc13 cy xh xq), (xc14 cy xh xq)] H := hP
      have hD : va_D A [(xc2 cy xh xq), (xc3 cy xh xq), (xc4 cy xh xq), (xc6 cy xh xq), (xc8 cy xh xq), (xc15 cy xh xq), (xc17 cy xh xq), (xc19 cy xh xq), (xc0 cy xh xq), (xc1 cy xh xq), (xc13 cy xh xq), (xc14 cy xh xq)] := hD
      refine lv_csv (.ref (xq 16)) rfl ?_
      refine lv_astore (lv' := [(4, .ref (xq 16)), (0, .ref xh), (1, .int 1), (2, .int 1), (3, .int xi)]) hx hb dX11_yard_6 hl (by decide) rfl (fun ls hl => ?_)
      refine lv_aload hx hb dX11_yard_8 (lv_at hl 0 rfl) ?_
      refine lv_ifnonnull (tgt := 17) hx hb dX11_yard_10 (by decide) ?_
      refine lv_aload hx hb dX11_yard_17 (lv_at hl 0 rfl) ?_
      refine lv_iload_n hx hb dX11_yard_19 rfl (lv_at hl 4 rfl) ?_
      refine cl_q (wr := [(xc2 cy xh xq), (xc3 cy xh xq), (xc4 cy xh xq), (xc6 cy xh xq), (xc8 cy xh xq), (xc15 cy xh xq), (xc19 cy xh xq), (xc0 cy xh xq), (xc1 cy xh xq), (xc13 cy xh xq), (xc14 cy xh xq)]) (va_runV (As := [.int xi]) (rest := []) ⟨hx, hb, hml, hown, hts⟩ (c_wagonAt l D cy (xq 16) (xq 17) xi _) (cwV 1 hts gX11_yard_X5_wagonAt rfl rfl rfl (by decide +kernel) ⟨(Nat.le_of_ble_eq_true rfl), (Nat.le_of_ble_eq_true rfl)⟩) (pre_V hKX hP hD (ci := 5) (q0 := 6) rfl rfl [6] rfl (by decide) rfl) rfl rfl hl.1 rfl (lv_room (Nat.le_of_ble_eq_true rfl)) dX11_yard_20 ⟨(Nat.le_of_ble_eq_true rfl), (Nat.le_of_ble_eq_true rfl)⟩) hP hD hS hA [6] [0, 1, 2, 3, 4, 5, 7, 8, 9, 10, 11] rfl rfl (by decide) (by decide) (fun u18 H locs _ hP hD hS => ?_)
      have hP : va_P D vwCl [(xc2 cy xh xq), (xc3 cy xh xq), (xc4 cy xh xq), (xc6 cy xh xq), (xc8 cy xh xq), (xc15 cy xh xq), (xc19 cy xh xq), (xc0 cy xh xq), (xc1 cy xh xq), (xc13 cy xh xq), (xc14 cy xh xq), ((xq 16), .inr (5, [.ref (xq 17), .int 0, .int 0]))] H := hP
      have hD : va_D A [(xc2 cy xh xq), (xc3 cy xh xq), (xc4 cy xh xq), (xc6 cy xh xq), (xc8 cy xh xq), (xc15 cy xh xq), (xc19 cy xh xq), (xc0 cy xh xq), (xc1 cy xh xq), (xc13 cy xh xq), (xc14 cy xh xq), ((xq 16), .inr (5, [.ref (xq 17), .int 0, .int 0]))] := hD
      refine lv_csv (.null) rfl ?_
      refine cl_i (wr := [(xc2 cy xh xq), (xc3 cy xh xq), (xc4 cy xh xq), (xc6 cy xh xq), (xc8 cy xh xq), (xc15 cy xh xq), (xc19 cy xh xq), (xc0 cy xh xq), (xc1 cy xh xq), (xc13 cy xh xq), (xc14 cy xh xq), ((xq 16), .inr (5, [.ref (xq 17), .int 0, .int 0]))]) (va_runS (As := [.null]) (rest := []) ⟨hx, hb, hml, hown, hts⟩ (c_numberOf l D cy  _) (va_cwS 1 hts gX11_yard_X11_numberOf rfl rfl rfl (by decide +kernel) ⟨(Nat.le_of_ble_eq_true rfl), (Nat.le_of_ble_eq_true rfl)⟩) (pre_S hKX hP hD [] rfl (by decide) rfl) rfl rfl hl.1 rfl (lv_room (Nat.le_of_ble_eq_true rfl)) dX11_yard_23 ⟨(Nat.le_of_ble_eq_true rfl), (Nat.le_of_ble_eq_true rfl)⟩) hP hD hS hA [] [0, 1, 2, 3, 4, 5, 6, 7, 8, 9, 10, 11] rfl rfl (by decide) (by decide) (fun u19 H locs _ hP hD hS => ?_)
      have hP : va_P D vwCl [(xc2 cy xh xq), (xc3 cy xh xq), (xc4 cy xh xq), (xc6 cy xh xq), (xc8 cy xh xq), (xc15 cy xh xq), (xc19 cy xh xq), (xc0 cy xh xq), (xc1 cy xh xq), (xc13 cy xh xq), (xc14 cy xh xq), ((xq 16), .inr (5, [.ref (xq 17), .int 0, .int 0]))] H := hP
      have hD : va_D A [(xc2 cy xh xq), (xc3 cy xh xq), (xc4 cy xh xq), (xc6 cy xh xq), (xc8 cy xh xq), (xc15 cy xh xq), (xc19 cy xh xq), (xc0 cy xh xq), (xc1 cy xh xq), (xc13 cy xh xq), (xc14 cy xh xq), ((xq 16), .inr (5, [.ref (xq 17), .int 0, .int 0]))] := hD
      exact en_i hx hb hr hlocks () rfl trivial (hP.sub [] rfl) (hD.sub [] (by decide) rfl) hS (Nat.le_of_ble_eq_true rfl) (Nat.le_of_ble_eq_true rfl) dX11_yard_26
    · refine lv_aload_n hx hb dX11_yard_0 rfl (lv_at hl 0 rfl) ?_
      refine lv_iload_n hx hb dX11_yard_1 rfl (lv_at hl 1 rfl) ?_
      refine lv_iload_n hx hb dX11_yard_2 rfl (lv_at hl 2 rfl) ?_
      refine cl_q (wr := [(xc2 cy xh xq), (xc3 cy xh xq), (xc4 cy xh xq), (xc6 cy xh xq), (xc8 cy xh xq), (xc15 cy xh xq), (xc17 cy xh xq), (xc19 cy xh xq)]) (va_runV (As := [.int 1, .int 2]) (rest := []) ⟨hx, hb, hml, hown, hts⟩ (c_yardRow_12 l D cy xh xq _) (cwV 2 hts gX11_yard_X11_yardRow rfl rfl rfl (by decide +kernel) ⟨(Nat.le_of_ble_eq_true rfl), (Nat.le_of_ble_eq_true rfl)⟩) (pre_V hKX hP hD (ci := 11) (q0 := 0) rfl rfl [0, 1, 7, 8] rfl (by decide) rfl) rfl rfl hl.1 rfl (lv_room (Nat.le_of_ble_eq_true rfl)) dX11_yard_3 ⟨(Nat.le_of_ble_eq_true rfl), (Nat.le_of_ble_eq_true rfl)⟩) hP hD hS hA [0, 1, 7, 8] [2, 3, 4, 5, 6, 9, 10, 11] rfl rfl (by decide) (by decide) (fun u20 H locs _ hP hD hS => ?_)
      have hP : va_P D vwCl [(xc2 cy xh xq), (xc3 cy xh xq), (xc4 cy xh xq), (xc6 cy xh xq), (xc8 cy xh xq), (xc15 cy xh xq), (xc17 cy xh xq), (xc19 cy xh xq), (xc0 cy xh xq), (xc1 cy xh xq), (xc13 cy xh xq), (xc14 cy xh xq)] H := hP
      have hD : va_D A [(xc2 cy xh xq), (xc3 cy xh xq), (xc4 cy xh xq), (xc6 cy xh xq), (xc8 cy xh xq), (xc15 cy xh xq), (xc17 cy xh xq), (xc19 cy xh xq), (xc0 cy xh xq), (xc1 cy xh xq), (xc13 cy xh xq), (xc14 cy xh xq)] := hD
      refine lv_csv (.ref (xq 18)) rfl ?_
      refine lv_astore (lv' := [(4, .ref (xq 18)), (0, .ref xh), (1, .int 1), (2, .int 2), (3, .int xi)]) hx hb dX11_yard_6 hl (by decide) rfl (fun ls hl => ?_)
      refine lv_aload hx hb dX11_yard_8 (lv_at hl 0 rfl) ?_
      refine lv_ifnonnull (tgt := 17) hx hb dX11_yard_10 (by decide) ?_
      refine lv_aload hx hb dX11_yard_17 (lv_at hl 0 rfl) ?_
      refine lv_iload_n hx hb dX11_yard_19 rfl (lv_at hl 4 rfl) ?_
      refine cl_q (wr := [(xc2 cy xh xq), (xc3 cy xh xq), (xc4 cy xh xq), (xc6 cy xh xq), (xc8 cy xh xq), (xc15 cy xh xq), (xc17 cy xh xq), (xc0 cy xh xq), (xc1 cy xh xq), (xc13 cy xh xq), (xc14 cy xh xq)]) (va_runV (As := [.int xi]) (rest := []) ⟨hx, hb, hml, hown, hts⟩ (c_wagonAt l D cy (xq 18) (xq 19) xi _) (cwV 1 hts gX11_yard_X5_wagonAt rfl rfl rfl (by decide +kernel) ⟨(Nat.le_of_ble_eq_true rfl), (Nat.le_of_ble_eq_true rfl)⟩) (pre_V hKX hP hD (ci := 5) (q0 := 7) rfl rfl [7] rfl (by decide) rfl) rfl rfl hl.1 rfl (lv_room (Nat.le_of_ble_eq_true rfl)) dX11_yard_20 ⟨(Nat.le_of_ble_eq_true rfl), (Nat.le_of_ble_eq_true rfl)⟩) hP hD hS hA [7] [0, 1, 2, 3, 4, 5, 6, 8, 9, 10, 11] rfl rfl (by decide) (by decide) (fun u21 H locs _ hP hD hS => ?_)
      have hP : va_P D vwCl [(xc2 cy xh xq), (xc3 cy xh xq), (xc4 cy xh xq), (xc6 cy xh xq), (xc8 cy xh xq), (xc15 cy xh xq), (xc17 cy xh xq), (xc0 cy xh xq), (xc1 cy xh xq), (xc13 cy xh xq), (xc14 cy xh xq), ((xq 18), .inr (5, [.ref (xq 19), .int 0, .int 0]))] H := hP
      have hD : va_D A [(xc2 cy xh xq), (xc3 cy xh xq), (xc4 cy xh xq), (xc6 cy xh xq), (xc8 cy xh xq), (xc15 cy xh xq), (xc17 cy xh xq), (xc0 cy xh xq), (xc1 cy xh xq), (xc13 cy xh xq), (xc14 cy xh xq), ((xq 18), .inr (5, [.ref (xq 19), .int 0, .int 0]))] := hD
      refine lv_csv (.null) rfl ?_
      refine cl_i (wr := [(xc2 cy xh xq), (xc3 cy xh xq), (xc4 cy xh xq), (xc6 cy xh xq), (xc8 cy xh xq), (xc15 cy xh xq), (xc17 cy xh xq), (xc0 cy xh xq), (xc1 cy xh xq), (xc13 cy xh xq), (xc14 cy xh xq), ((xq 18), .inr (5, [.ref (xq 19), .int 0, .int 0]))]) (va_runS (As := [.null]) (rest := []) ⟨hx, hb, hml, hown, hts⟩ (c_numberOf l D cy  _) (va_cwS 1 hts gX11_yard_X11_numberOf rfl rfl rfl (by decide +kernel) ⟨(Nat.le_of_ble_eq_true rfl), (Nat.le_of_ble_eq_true rfl)⟩) (pre_S hKX hP hD [] rfl (by decide) rfl) rfl rfl hl.1 rfl (lv_room (Nat.le_of_ble_eq_true rfl)) dX11_yard_23 ⟨(Nat.le_of_ble_eq_true rfl), (Nat.le_of_ble_eq_true rfl)⟩) hP hD hS hA [] [0, 1, 2, 3, 4, 5, 6, 7, 8, 9, 10, 11] rfl rfl (by decide) (by decide) (fun u22 H locs _ hP hD hS => ?_)
      have hP : va_P D vwCl [(xc2 cy xh xq), (xc3 cy xh xq), (xc4 cy xh xq), (xc6 cy xh xq), (xc8 cy xh xq), (xc15 cy xh xq), (xc17 cy xh xq), (xc0 cy xh xq), (xc1 cy xh xq), (xc13 cy xh xq), (xc14 cy xh xq), ((xq 18), .inr (5, [.ref (xq 19), .int 0, .int 0]))] H := hP
      have hD : va_D A [(xc2 cy xh xq), (xc3 cy xh xq), (xc4 cy xh xq), (xc6 cy xh xq), (xc8 cy xh xq), (xc15 cy xh xq), (xc17 cy xh xq), (xc0 cy xh xq), (xc1 cy xh xq), (xc13 cy xh xq), (xc14 cy xh xq), ((xq 18), .inr (5, [.ref (xq 19), .int 0, .int 0]))] := hD
      exact en_i hx hb hr hlocks () rfl trivial (hP.sub [] rfl) (hD.sub [] (by decide) rfl) hS (Nat.le_of_ble_eq_true rfl) (Nat.le_of_ble_eq_true rfl) dX11_yard_26
    · refine lv_aload_n hx hb dX11_yard_0 rfl (lv_at hl 0 rfl) ?_
      refine lv_iload_n hx hb dX11_yard_1 rfl (lv_at hl 1 rfl) ?_
      refine lv_iload_n hx hb dX11_yard_2 rfl (lv_at hl 2 rfl) ?_
      refine cl_q (wr := [(xc0 cy xh xq), (xc1 cy xh xq), (xc2 cy xh xq), (xc3 cy xh xq), (xc4 cy xh xq), (xc6 cy xh xq), (xc8 cy xh xq), (xc13 cy xh xq), (xc14 cy xh xq), (xc15 cy xh xq), (xc17 cy xh xq), (xc19 cy xh xq)]) (va_runV (As := [.int 1, .int xt]) (rest := []) ⟨hx, hb, hml, hown, hts⟩ (c_yardRow_t l D cy xh xq 1 xt o13 _) (cwV 2 hts gX11_yard_X11_yardRow rfl rfl rfl (by decide +kernel) ⟨(Nat.le_of_ble_eq_true rfl), (Nat.le_of_ble_eq_true rfl)⟩) (pre_V hKX hP hD (ci := 11) (q0 := 0) rfl rfl [] rfl (by decide) rfl) rfl rfl hl.1 rfl (lv_room (Nat.le_of_ble_eq_true rfl)) dX11_yard_3 ⟨(Nat.le_of_ble_eq_true rfl), (Nat.le_of_ble_eq_true rfl)⟩) hP hD hS hA [] [0, 1, 2, 3, 4, 5, 6, 7, 8, 9, 10, 11] rfl rfl (by decide) (by decide) (fun u23 H locs _ hP hD hS => ?_)
      have hP : va_P D vwCl [(xc0 cy xh xq), (xc1 cy xh xq), (xc2 cy xh xq), (xc3 cy xh xq), (xc4 cy xh xq), (xc6 cy xh xq), (xc8 cy xh xq), (xc13 cy xh xq), (xc14 cy xh xq), (xc15 cy xh xq), (xc17 cy xh xq), (xc19 cy xh xq)] H := hP
      have hD : va_D A [(xc0 cy xh xq), (xc1 cy xh xq), (xc2 cy xh xq), (xc3 cy xh xq), (xc4 cy xh xq), (xc6 cy xh xq), (xc8 cy xh xq), (xc13 cy xh xq), (xc14 cy xh xq), (xc15 cy xh xq), (xc17 cy xh xq), (xc19 cy xh xq)] := hD
      refine lv_csv (.null) rfl ?_
      refine lv_astoreN (lv' := [(4, .null), (0, .ref xh), (1, .int 1), (2, .int xt), (3, .int xi)]) hx hb dX11_yard_6 hl (by decide) rfl (fun ls hl => ?_)
      refine lv_aloadN hx hb dX11_yard_8 (lv_at hl 0 rfl) ?_
      refine lv_ifnonnullN hx hb dX11_yard_10 ?_
      refine lv_iconst (v := (-1)) hx hb dX11_yard_13 (by decide) ?_
      refine lv_goto (tgt := 26) hx hb dX11_yard_14 (by decide) ?_
      exact en_i hx hb hr hlocks () rfl trivial (hP.sub [] rfl) (hD.sub [] (by decide) rfl) hS (Nat.le_of_ble_eq_true rfl) (Nat.le_of_ble_eq_true rfl) dX11_yard_26
  · refine lv_aload_n hx hb dX11_yard_0 rfl (lv_at hl 0 rfl) ?_
    refine lv_iload_n hx hb dX11_yard_1 rfl (lv_at hl 1 rfl) ?_
    refine lv_iload_n hx hb dX11_yard_2 rfl (lv_at hl 2 rfl) ?_
    refine cl_q (wr := [(xc0 cy xh xq), (xc1 cy xh xq), (xc2 cy xh xq), (xc3 cy xh xq), (xc4 cy xh xq), (xc6 cy xh xq), (xc8 cy xh xq), (xc13 cy xh xq), (xc14 cy xh xq), (xc15 cy xh xq), (xc17 cy xh xq), (xc19 cy xh xq)]) (va_runV (As := [.int xs, .int xt]) (rest := []) ⟨hx, hb, hml, hown, hts⟩ (c_yardRow_s l D cy xh xq xs xt o1 _) (cwV 2 hts gX11_yard_X11_yardRow rfl rfl rfl (by decide +kernel) ⟨(Nat.le_of_ble_eq_true rfl), (Nat.le_of_ble_eq_true rfl)⟩) (pre_V hKX hP hD (ci := 11) (q0 := 0) rfl rfl [] rfl (by decide) rfl) rfl rfl hl.1 rfl (lv_room (Nat.le_of_ble_eq_true rfl)) dX11_yard_3 ⟨(Nat.le_of_ble_eq_true rfl), (Nat.le_of_ble_eq_true rfl)⟩) hP hD hS hA [] [0, 1, 2, 3, 4, 5, 6, 7, 8, 9, 10, 11] rfl rfl (by decide) (by decide) (fun u24 H locs _ hP hD hS => ?_)
    have hP : va_P D vwCl [(xc0 cy xh xq), (xc1 cy xh xq), (xc2 cy xh xq), (xc3 cy xh xq), (xc4 cy xh xq), (xc6 cy xh xq), (xc8 cy xh xq), (xc13 cy xh xq), (xc14 cy xh xq), (xc15 cy xh xq), (xc17 cy xh xq), (xc19 cy xh xq)] H := hP
    have hD : va_D A [(xc0 cy xh xq), (xc1 cy xh xq), (xc2 cy xh xq), (xc3 cy xh xq), (xc4 cy xh xq), (xc6 cy xh xq), (xc8 cy xh xq), (xc13 cy xh xq), (xc14 cy xh xq), (xc15 cy xh xq), (xc17 cy xh xq), (xc19 cy xh xq)] := hD
    refine lv_csv (.null) rfl ?_
    refine lv_astoreN (lv' := [(4, .null), (0, .ref xh), (1, .int xs), (2, .int xt), (3, .int xi)]) hx hb dX11_yard_6 hl (by decide) rfl (fun ls hl => ?_)
    refine lv_aloadN hx hb dX11_yard_8 (lv_at hl 0 rfl) ?_
    refine lv_ifnonnullN hx hb dX11_yard_10 ?_
    refine lv_iconst (v := (-1)) hx hb dX11_yard_13 (by decide) ?_
    refine lv_goto (tgt := 26) hx hb dX11_yard_14 (by decide) ?_
    exact en_i hx hb hr hlocks () rfl trivial (hP.sub [] rfl) (hD.sub [] (by decide) rfl) hS (Nat.le_of_ble_eq_true rfl) (Nat.le_of_ble_eq_true rfl) dX11_yard_26
theorem iw_X11_of_X11 : ∀ w ∈ wsX110, w ∈ wsX11_of := by decide +kernel
set_option maxHeartbeats 4000000 in
set_option maxRecDepth 100000 in
theorem c_of (l : Launch) (D : va_G) (cy : Nat → ClassId) (xh : Nat) (xq : Nat → Nat) (xw : Int32) (xk : Int32) (sz : Nat) : Met l yX11_of wsX11_of ({ frames := 1, cells := 0, slots := 0, locals := 22 }) (wPre D cy [.ref xh, .int xw, .int xk] sz [(xc0 cy xh xq)]) (wQi D (-1) (fun _ : Unit => True) (fun _u : Unit => []) (va_A [(xc0 cy xh xq)] sz)) 0 0 (va_A [(xc0 cy xh xq)] sz) := by
  refine met_go (y := yX11_of) (ws := wsX11_of) (av := [.ref xh, .int xw, .int xk]) (cc := cX11_of) (maxL := 4) (ret := (some .int)) (Qc := fun A => wQi D (-1) (fun _ : Unit => True) (fun _u : Unit => []) A) (by decide) rfl (Nat.le_of_ble_eq_true rfl) ?_
  intro p e s m below meth c ls A hx hb hr hml hown hts hlocks hname hKX hP hD hA hS hl
  have hown : s.vm.findClass RX11 = some m.cls := hown
  have hl : lv_has ls 4 [(0, .ref xh), (1, .int xw), (2, .int xk)] := hl
  have hi : wi xw 0 (-1) = 0 := wi_emp xw
  refine lv_iload_n hx hb dX11_of_0 rfl (lv_at hl 1 rfl) ?_
  refine lv_iconst (v := 0) hx hb dX11_of_1 (by decide) ?_
  refine lv_aload_n hx hb dX11_of_2 rfl (lv_at hl 0 rfl) ?_
  refine va_get (D := D) (ci := 11) (v := .int 0) (C := RX11) (T := TX11) (N := 18) hx hb hts iw_X11_of_X11 hown hKX.1 hP 0 rfl rfl 9 (by decide) (hts (.fieldLink RX11 63 "TrainFerry" "wagonsCome" "I") (by decide +kernel)) (fun _ h9 => h9) rfl dX11_of_3 ?_
  refine lv_iconst (v := 1) hx hb dX11_of_6 (by decide) ?_
  refine lv_isub hx hb dX11_of_7 ?_
  refine lv_cst (-1) (by decide) ?_
  refine cl_i (wr := [(xc0 cy xh xq)]) (va_runS (As := [.int xw, .int 0, .int (-1)]) (rest := []) ⟨hx, hb, hml, hown, hts⟩ (c_isWithin l D cy xw 0 (-1) _) (va_cwS 3 hts gX11_of_X11_isWithin rfl rfl rfl (by decide +kernel) ⟨(Nat.le_of_ble_eq_true rfl), (Nat.le_of_ble_eq_true rfl)⟩) (pre_S hKX hP hD [] rfl (by decide) rfl) rfl rfl hl.1 rfl (lv_room (Nat.le_of_ble_eq_true rfl)) dX11_of_8 ⟨(Nat.le_of_ble_eq_true rfl), (Nat.le_of_ble_eq_true rfl)⟩) hP hD hS hA [] [0] rfl rfl (by decide) (by decide) (fun u1 H locs _ hP hD hS => ?_)
  have hP : va_P D vwCl [(xc0 cy xh xq)] H := hP
  have hD : va_D A [(xc0 cy xh xq)] := hD
  refine lv_if_ne (tgt := 16) hx hb dX11_of_11 (by decide) (fun c9 => absurd hi c9) (fun _ => ?_)
  refine lv_iconst (v := (-1)) hx hb dX11_of_14 (by decide) ?_
  exact en_i hx hb hr hlocks () rfl trivial (hP.sub [] rfl) (hD.sub [] (by decide) rfl) hS (Nat.le_of_ble_eq_true rfl) (Nat.le_of_ble_eq_true rfl) dX11_of_15
theorem iw_X11_allPaidBy_X11 : ∀ w ∈ wsX110, w ∈ wsX11_allPaidBy := by decide +kernel
set_option maxHeartbeats 4000000 in
set_option maxRecDepth 100000 in
theorem c_paid_0 (l : Launch) (D : va_G) (cy : Nat → ClassId) (xh : Nat) (xq : Nat → Nat) (sz : Nat) : Met l yX11_allPaidBy wsX11_allPaidBy ({ frames := 0, cells := 0, slots := 0, locals := 0 }) (wPre D cy [.ref xh, .int 0] sz [(xc0 cy xh xq)]) (wQl D 0 (fun _ : Unit => True) (fun _u : Unit => [(xc0 cy xh xq)]) (va_A [(xc0 cy xh xq)] sz)) 0 0 (va_A [(xc0 cy xh xq)] sz) := by
  refine met_go (y := yX11_allPaidBy) (ws := wsX11_allPaidBy) (av := [.ref xh, .int 0]) (cc := cX11_allPaidBy) (maxL := 6) (ret := (some .long)) (Qc := fun A => wQl D 0 (fun _ : Unit => True) (fun _u : Unit => [(xc0 cy xh xq)]) A) (by decide) rfl (Nat.le_of_ble_eq_true rfl) ?_
  intro p e s m below meth c ls A hx hb hr hml hown hts hlocks hname hKX hP hD hA hS hl
  have hown : s.vm.findClass RX11 = some m.cls := hown
  have hl : lv_has ls 6 [(0, .ref xh), (1, .int 0)] := hl
  refine lv_lconst (v := 0) hx hb dX11_allPaidBy_0 (by decide) ?_
  refine lv_lstore_n (lv' := [(2, .long 0), (0, .ref xh), (1, .int 0)]) hx hb dX11_allPaidBy_1 rfl hl (by decide) rfl (fun ls hl => ?_)
  refine lv_iconst (v := 0) hx hb dX11_allPaidBy_2 (by decide) ?_
  refine lv_istore (lv' := [(4, .int 0), (2, .long 0), (0, .ref xh), (1, .int 0)]) hx hb dX11_allPaidBy_3 hl (by decide) rfl (fun ls hl => ?_)
  refine lv_iload hx hb dX11_allPaidBy_5 (lv_at hl 0 rfl) ?_
  refine lv_aload_n hx hb dX11_allPaidBy_7 rfl (lv_at hl 2 rfl) ?_
  refine va_get (D := D) (ci := 11) (v := .int 0) (C := RX11) (T := TX11) (N := 18) hx hb hts iw_X11_allPaidBy_X11 hown hKX.1 hP 0 rfl rfl 9 (by decide) (hts (.fieldLink RX11 63 "TrainFerry" "wagonsCome" "I") (by decide +kernel)) (fun _ h9 => h9) rfl dX11_allPaidBy_8 ?_
  refine lv_icmp_ge (tgt := 56) hx hb dX11_allPaidBy_11 (by decide) (fun _ => ?_) (fun c9 => absurd (by decide) c9)
  refine lv_lload_n hx hb dX11_allPaidBy_56 rfl (lv_at hl 1 rfl) ?_
  exact en_l hx hb hr hlocks () rfl trivial (hP.sub [0] rfl) (hD.sub [0] (by decide) rfl) hS (Nat.le_of_ble_eq_true rfl) (Nat.le_of_ble_eq_true rfl) dX11_allPaidBy_57
set_option maxHeartbeats 4000000 in
set_option maxRecDepth 100000 in
theorem c_paid_1 (l : Launch) (D : va_G) (cy : Nat → ClassId) (xh : Nat) (xq : Nat → Nat) (sz : Nat) : Met l yX11_allPaidBy wsX11_allPaidBy ({ frames := 0, cells := 0, slots := 0, locals := 0 }) (wPre D cy [.ref xh, .int 1] sz [(xc0 cy xh xq)]) (wQl D 0 (fun _ : Unit => True) (fun _u : Unit => [(xc0 cy xh xq)]) (va_A [(xc0 cy xh xq)] sz)) 0 0 (va_A [(xc0 cy xh xq)] sz) := by
  refine met_go (y := yX11_allPaidBy) (ws := wsX11_allPaidBy) (av := [.ref xh, .int 1]) (cc := cX11_allPaidBy) (maxL := 6) (ret := (some .long)) (Qc := fun A => wQl D 0 (fun _ : Unit => True) (fun _u : Unit => [(xc0 cy xh xq)]) A) (by decide) rfl (Nat.le_of_ble_eq_true rfl) ?_
  intro p e s m below meth c ls A hx hb hr hml hown hts hlocks hname hKX hP hD hA hS hl
  have hown : s.vm.findClass RX11 = some m.cls := hown
  have hl : lv_has ls 6 [(0, .ref xh), (1, .int 1)] := hl
  refine lv_lconst (v := 0) hx hb dX11_allPaidBy_0 (by decide) ?_
  refine lv_lstore_n (lv' := [(2, .long 0), (0, .ref xh), (1, .int 1)]) hx hb dX11_allPaidBy_1 rfl hl (by decide) rfl (fun ls hl => ?_)
  refine lv_iconst (v := 0) hx hb dX11_allPaidBy_2 (by decide) ?_
  refine lv_istore (lv' := [(4, .int 0), (2, .long 0), (0, .ref xh), (1, .int 1)]) hx hb dX11_allPaidBy_3 hl (by decide) rfl (fun ls hl => ?_)
  refine lv_iload hx hb dX11_allPaidBy_5 (lv_at hl 0 rfl) ?_
  refine lv_aload_n hx hb dX11_allPaidBy_7 rfl (lv_at hl 2 rfl) ?_
  refine va_get (D := D) (ci := 11) (v := .int 0) (C := RX11) (T := TX11) (N := 18) hx hb hts iw_X11_allPaidBy_X11 hown hKX.1 hP 0 rfl rfl 9 (by decide) (hts (.fieldLink RX11 63 "TrainFerry" "wagonsCome" "I") (by decide +kernel)) (fun _ h9 => h9) rfl dX11_allPaidBy_8 ?_
  refine lv_icmp_ge (tgt := 56) hx hb dX11_allPaidBy_11 (by decide) (fun _ => ?_) (fun c9 => absurd (by decide) c9)
  refine lv_lload_n hx hb dX11_allPaidBy_56 rfl (lv_at hl 1 rfl) ?_
  exact en_l hx hb hr hlocks () rfl trivial (hP.sub [0] rfl) (hD.sub [0] (by decide) rfl) hS (Nat.le_of_ble_eq_true rfl) (Nat.le_of_ble_eq_true rfl) dX11_allPaidBy_57
theorem iw_X11_count_X11 : ∀ w ∈ wsX110, w ∈ wsX11_count := by decide +kernel
theorem iw_X11_count_X6 : ∀ w ∈ wsX60, w ∈ wsX11_count := by decide +kernel
theorem iw_X11_count_X1 : ∀ w ∈ wsX10, w ∈ wsX11_count := by decide +kernel
theorem iw_X11_count_X9 : ∀ w ∈ wsX90, w ∈ wsX11_count := by decide +kernel
set_option maxHeartbeats 4000000 in
set_option maxRecDepth 100000 in
theorem c_count (l : Launch) (D : va_G) (cy : Nat → ClassId) (xh : Nat) (xq : Nat → Nat) (xw : Int32) (sz : Nat) : Met l yX11_count wsX11_count ({ frames := 2, cells := 0, slots := 0, locals := 43 }) (wPre D cy [.ref xh, .int xw] sz [(xc0 cy xh xq), (xc40 cy xh xq), (xc41 cy xh xq), (xc44 cy xh xq)]) (wQl D (fCount xw) (fun _ : Unit => True) (fun _u : Unit => []) (va_A [(xc0 cy xh xq), (xc40 cy xh xq), (xc41 cy xh xq), (xc44 cy xh xq)] sz)) 0 0 (va_A [(xc0 cy xh xq), (xc40 cy xh xq), (xc41 cy xh xq), (xc44 cy xh xq)] sz) := by
  refine met_go (y := yX11_count) (ws := wsX11_count) (av := [.ref xh, .int xw]) (cc := cX11_count) (maxL := 2) (ret := (some .long)) (Qc := fun A => wQl D (fCount xw) (fun _ : Unit => True) (fun _u : Unit => []) A) (by decide) rfl (Nat.le_of_ble_eq_true rfl) ?_
  intro p e s m below meth c ls A hx hb hr hml hown hts hlocks hname hKX hP hD hA hS hl
  have hown : s.vm.findClass RX11 = some m.cls := hown
  have hl : lv_has ls 2 [(0, .ref xh), (1, .int xw)] := hl
  rcases sp9 xw with rfl | rfl | rfl | rfl | rfl | rfl | rfl | rfl | rfl | ho
  · refine lv_iload_n hx hb dX11_count_0 rfl (lv_at hl 1 rfl) ?_
    refine lv_tableIn (off := 51) (tgt := 52) hx hb dX11_count_1 (by decide) (by decide) (by decide) (by decide) ?_
    refine lv_aload_n hx hb dX11_count_52 rfl (lv_at hl 0 rfl) ?_
    refine va_get (D := D) (ci := 11) (v := .int 0) (C := RX11) (T := TX11) (N := 18) hx hb hts iw_X11_count_X11 hown hKX.1 hP 0 rfl rfl 10 (by decide) (hts (.fieldLink RX11 67 "TrainFerry" "now" "I") (by decide +kernel)) (fun _ h9 => h9) rfl dX11_count_53 ?_
    refine lv_i2l (v := 0) hx hb dX11_count_56 (by decide) ?_
    exact en_l hx hb hr hlocks () (by decide) trivial (hP.sub [] rfl) (hD.sub [] (by decide) rfl) hS (Nat.le_of_ble_eq_true rfl) (Nat.le_of_ble_eq_true rfl) dX11_count_57
  · refine lv_iload_n hx hb dX11_count_0 rfl (lv_at hl 1 rfl) ?_
    refine lv_tableIn (off := 57) (tgt := 58) hx hb dX11_count_1 (by decide) (by decide) (by decide) (by decide) ?_
    refine lv_aload_n hx hb dX11_count_58 rfl (lv_at hl 0 rfl) ?_
    refine va_get (D := D) (ci := 11) (v := .int 0) (C := RX11) (T := TX11) (N := 18) hx hb hts iw_X11_count_X11 hown hKX.1 hP 0 rfl rfl 9 (by decide) (hts (.fieldLink RX11 63 "TrainFerry" "wagonsCome" "I") (by decide +kernel)) (fun _ h9 => h9) rfl dX11_count_59 ?_
    refine lv_i2l (v := 0) hx hb dX11_count_62 (by decide) ?_
    exact en_l hx hb hr hlocks () (by decide) trivial (hP.sub [] rfl) (hD.sub [] (by decide) rfl) hS (Nat.le_of_ble_eq_true rfl) (Nat.le_of_ble_eq_true rfl) dX11_count_63
  · refine lv_iload_n hx hb dX11_count_0 rfl (lv_at hl 1 rfl) ?_
    refine lv_tableIn (off := 63) (tgt := 64) hx hb dX11_count_1 (by decide) (by decide) (by decide) (by decide) ?_
    refine lv_aload_n hx hb dX11_count_64 rfl (lv_at hl 0 rfl) ?_
    refine va_get (D := D) (ci := 11) (v := .ref (xq 43)) (C := RX11) (T := TX11) (N := 18) hx hb hts iw_X11_count_X11 hown hKX.1 hP 0 rfl rfl 5 (by decide) (hts (.fieldLink RX11 47 "TrainFerry" "agreed" "LTrainFerry$Schedule;") (by decide +kernel)) (fun _ h9 => h9) rfl dX11_count_65 ?_
    refine va_get (D := D) (ci := 6) (v := .int 0) (C := RX6) (T := TX6) (N := 4) hx hb hts iw_X11_count_X6 hown hKX.1 hP 3 rfl rfl 2 (by decide) (hts (.fieldLink RX11 144 "TrainFerry$Schedule" "size" "I") (by decide +kernel)) (fun _ h9 => h9) rfl dX11_count_68 ?_
    refine lv_i2l (v := 0) hx hb dX11_count_71 (by decide) ?_
    exact en_l hx hb hr hlocks () (by decide) trivial (hP.sub [] rfl) (hD.sub [] (by decide) rfl) hS (Nat.le_of_ble_eq_true rfl) (Nat.le_of_ble_eq_true rfl) dX11_count_72
  · refine lv_iload_n hx hb dX11_count_0 rfl (lv_at hl 1 rfl) ?_
    refine lv_tableIn (off := 72) (tgt := 73) hx hb dX11_count_1 (by decide) (by decide) (by decide) (by decide) ?_
    refine lv_aload_n hx hb dX11_count_73 rfl (lv_at hl 0 rfl) ?_
    refine va_get (D := D) (ci := 11) (v := .ref (xq 43)) (C := RX11) (T := TX11) (N := 18) hx hb hts iw_X11_count_X11 hown hKX.1 hP 0 rfl rfl 5 (by decide) (hts (.fieldLink RX11 47 "TrainFerry" "agreed" "LTrainFerry$Schedule;") (by decide +kernel)) (fun _ h9 => h9) rfl dX11_count_74 ?_
    refine lv_aload_n hx hb dX11_count_77 rfl (lv_at hl 0 rfl) ?_
    refine va_get (D := D) (ci := 11) (v := .int 0) (C := RX11) (T := TX11) (N := 18) hx hb hts iw_X11_count_X11 hown hKX.1 hP 0 rfl rfl 10 (by decide) (hts (.fieldLink RX11 67 "TrainFerry" "now" "I") (by decide +kernel)) (fun _ h9 => h9) rfl dX11_count_78 ?_
    refine lv_iconst (v := (-1)) hx hb dX11_count_81 (by decide) ?_
    refine cl_i (wr := [(xc0 cy xh xq), (xc40 cy xh xq), (xc41 cy xh xq)]) (va_runV (As := [.int 0, .int (-1)]) (rest := []) ⟨hx, hb, hml, hown, hts⟩ (c_valueIn l D cy (xq 43) (xq 44) (xq 45) 0 (-1) _) (cwV 2 hts gX11_count_X6_valueIn rfl rfl rfl (by decide +kernel) ⟨(Nat.le_of_ble_eq_true rfl), (Nat.le_of_ble_eq_true rfl)⟩) (pre_V hKX hP hD (ci := 6) (q0 := 3) rfl rfl [3] rfl (by decide) rfl) rfl rfl hl.1 rfl (lv_room (Nat.le_of_ble_eq_true rfl)) dX11_count_82 ⟨(Nat.le_of_ble_eq_true rfl), (Nat.le_of_ble_eq_true rfl)⟩) hP hD hS hA [3] [0, 1, 2] rfl rfl (by decide) (by decide) (fun u1 H locs _ hP hD hS => ?_)
    have hP : va_P D vwCl [(xc0 cy xh xq), (xc40 cy xh xq), (xc41 cy xh xq), ((xq 43), .inr (6, [.ref (xq 44), .ref (xq 45), .int 0, .int (-1)]))] H := hP
    have hD : va_D A [(xc0 cy xh xq), (xc40 cy xh xq), (xc41 cy xh xq), ((xq 43), .inr (6, [.ref (xq 44), .ref (xq 45), .int 0, .int (-1)]))] := hD
    refine lv_i2l (v := (-1)) hx hb dX11_count_85 (by decide) ?_
    exact en_l hx hb hr hlocks () (by decide) trivial (hP.sub [] rfl) (hD.sub [] (by decide) rfl) hS (Nat.le_of_ble_eq_true rfl) (Nat.le_of_ble_eq_true rfl) dX11_count_86
  · refine lv_iload_n hx hb dX11_count_0 rfl (lv_at hl 1 rfl) ?_
    refine lv_tableIn (off := 86) (tgt := 87) hx hb dX11_count_1 (by decide) (by decide) (by decide) (by decide) ?_
    refine lv_aload_n hx hb dX11_count_87 rfl (lv_at hl 0 rfl) ?_
    refine va_get (D := D) (ci := 11) (v := .ref (xq 39)) (C := RX11) (T := TX11) (N := 18) hx hb hts iw_X11_count_X11 hown hKX.1 hP 0 rfl rfl 3 (by decide) (hts (.fieldLink RX11 32 "TrainFerry" "reader" "LTrainFerry$AgreementReader;") (by decide +kernel)) (fun _ h9 => h9) rfl dX11_count_88 ?_
    refine va_get (D := D) (ci := 1) (v := .ref (xq 40)) (C := RX1) (T := TX1) (N := 6) hx hb hts iw_X11_count_X1 hown hKX.1 hP 1 rfl rfl 0 (by decide) (hts (.fieldLink RX11 156 "TrainFerry$AgreementReader" "tape" "LTrainFerry$Tape;") (by decide +kernel)) (fun _ h9 => h9) rfl dX11_count_91 ?_
    refine va_get (D := D) (ci := 9) (v := .int 0) (C := RX9) (T := TX9) (N := 2) hx hb hts iw_X11_count_X9 hown hKX.1 hP 2 rfl rfl 1 (by decide) (hts (.fieldLink RX11 160 "TrainFerry$Tape" "size" "I") (by decide +kernel)) (fun _ h9 => h9) rfl dX11_count_94 ?_
    refine lv_i2l (v := 0) hx hb dX11_count_97 (by decide) ?_
    exact en_l hx hb hr hlocks () (by decide) trivial (hP.sub [] rfl) (hD.sub [] (by decide) rfl) hS (Nat.le_of_ble_eq_true rfl) (Nat.le_of_ble_eq_true rfl) dX11_count_98
  · refine lv_iload_n hx hb dX11_count_0 rfl (lv_at hl 1 rfl) ?_
    refine lv_tableIn (off := 98) (tgt := 99) hx hb dX11_count_1 (by decide) (by decide) (by decide) (by decide) ?_
    refine lv_aload_n hx hb dX11_count_99 rfl (lv_at hl 0 rfl) ?_
    refine va_get (D := D) (ci := 11) (v := .int 0) (C := RX11) (T := TX11) (N := 18) hx hb hts iw_X11_count_X11 hown hKX.1 hP 0 rfl rfl 15 (by decide) (hts (.fieldLink RX11 82 "TrainFerry" "sea" "I") (by decide +kernel)) (fun _ h9 => h9) rfl dX11_count_100 ?_
    refine lv_i2l (v := 0) hx hb dX11_count_103 (by decide) ?_
    exact en_l hx hb hr hlocks () (by decide) trivial (hP.sub [] rfl) (hD.sub [] (by decide) rfl) hS (Nat.le_of_ble_eq_true rfl) (Nat.le_of_ble_eq_true rfl) dX11_count_104
  · refine lv_iload_n hx hb dX11_count_0 rfl (lv_at hl 1 rfl) ?_
    refine lv_tableIn (off := 104) (tgt := 105) hx hb dX11_count_1 (by decide) (by decide) (by decide) (by decide) ?_
    refine lv_aload_n hx hb dX11_count_105 rfl (lv_at hl 0 rfl) ?_
    refine lv_iconst (v := 0) hx hb dX11_count_106 (by decide) ?_
    refine cl_l (wr := [(xc40 cy xh xq), (xc41 cy xh xq), (xc44 cy xh xq)]) (va_runV (As := [.int 0]) (rest := []) ⟨hx, hb, hml, hown, hts⟩ (c_paid_0 l D cy xh xq _) (cwV 1 hts gX11_count_X11_allPaidBy rfl rfl rfl (by decide +kernel) ⟨(Nat.le_of_ble_eq_true rfl), (Nat.le_of_ble_eq_true rfl)⟩) (pre_V hKX hP hD (ci := 11) (q0 := 0) rfl rfl [0] rfl (by decide) rfl) rfl rfl hl.1 rfl (lv_room (Nat.le_of_ble_eq_true rfl)) dX11_count_107 ⟨(Nat.le_of_ble_eq_true rfl), (Nat.le_of_ble_eq_true rfl)⟩) hP hD hS hA [0] [1, 2, 3] rfl rfl (by decide) (by decide) (fun u2 H locs _ hP hD hS => ?_)
    have hP : va_P D vwCl [(xc40 cy xh xq), (xc41 cy xh xq), (xc44 cy xh xq), (xc0 cy xh xq)] H := hP
    have hD : va_D A [(xc40 cy xh xq), (xc41 cy xh xq), (xc44 cy xh xq), (xc0 cy xh xq)] := hD
    exact en_l hx hb hr hlocks () (by decide) trivial (hP.sub [] rfl) (hD.sub [] (by decide) rfl) hS (Nat.le_of_ble_eq_true rfl) (Nat.le_of_ble_eq_true rfl) dX11_count_110
  · refine lv_iload_n hx hb dX11_count_0 rfl (lv_at hl 1 rfl) ?_
    refine lv_tableIn (off := 110) (tgt := 111) hx hb dX11_count_1 (by decide) (by decide) (by decide) (by decide) ?_
    refine lv_aload_n hx hb dX11_count_111 rfl (lv_at hl 0 rfl) ?_
    refine lv_iconst (v := 1) hx hb dX11_count_112 (by decide) ?_
    refine cl_l (wr := [(xc40 cy xh xq), (xc41 cy xh xq), (xc44 cy xh xq)]) (va_runV (As := [.int 1]) (rest := []) ⟨hx, hb, hml, hown, hts⟩ (c_paid_1 l D cy xh xq _) (cwV 1 hts gX11_count_X11_allPaidBy rfl rfl rfl (by decide +kernel) ⟨(Nat.le_of_ble_eq_true rfl), (Nat.le_of_ble_eq_true rfl)⟩) (pre_V hKX hP hD (ci := 11) (q0 := 0) rfl rfl [0] rfl (by decide) rfl) rfl rfl hl.1 rfl (lv_room (Nat.le_of_ble_eq_true rfl)) dX11_count_113 ⟨(Nat.le_of_ble_eq_true rfl), (Nat.le_of_ble_eq_true rfl)⟩) hP hD hS hA [0] [1, 2, 3] rfl rfl (by decide) (by decide) (fun u3 H locs _ hP hD hS => ?_)
    have hP : va_P D vwCl [(xc40 cy xh xq), (xc41 cy xh xq), (xc44 cy xh xq), (xc0 cy xh xq)] H := hP
    have hD : va_D A [(xc40 cy xh xq), (xc41 cy xh xq), (xc44 cy xh xq), (xc0 cy xh xq)] := hD
    exact en_l hx hb hr hlocks () (by decide) trivial (hP.sub [] rfl) (hD.sub [] (by decide) rfl) hS (Nat.le_of_ble_eq_true rfl) (Nat.le_of_ble_eq_true rfl) dX11_count_116
  · refine lv_iload_n hx hb dX11_count_0 rfl (lv_at hl 1 rfl) ?_
    refine lv_tableIn (off := 116) (tgt := 117) hx hb dX11_count_1 (by decide) (by decide) (by decide) (by decide) ?_
    refine lv_aload_n hx hb dX11_count_117 rfl (lv_at hl 0 rfl) ?_
    refine va_get (D := D) (ci := 11) (v := .int 0) (C := RX11) (T := TX11) (N := 18) hx hb hts iw_X11_count_X11 hown hKX.1 hP 0 rfl rfl 14 (by decide) (hts (.fieldLink RX11 79 "TrainFerry" "sailings" "I") (by decide +kernel)) (fun _ h9 => h9) rfl dX11_count_118 ?_
    refine lv_i2l (v := 0) hx hb dX11_count_121 (by decide) ?_
    exact en_l hx hb hr hlocks () (by decide) trivial (hP.sub [] rfl) (hD.sub [] (by decide) rfl) hS (Nat.le_of_ble_eq_true rfl) (Nat.le_of_ble_eq_true rfl) dX11_count_122
  · refine lv_iload_n hx hb dX11_count_0 rfl (lv_at hl 1 rfl) ?_
    refine lv_tableOut (tgt := 123) hx hb dX11_count_1 ho (by decide) ?_
    refine lv_ldc2 (v := (-1)) hx hb hown (hts (.constantLong RX11 300 (-1)) (by decide +kernel)) dX11_count_123 ?_
    exact en_l hx hb hr hlocks () (fCount_out ho) trivial (hP.sub [] rfl) (hD.sub [] (by decide) rfl) hS (Nat.le_of_ble_eq_true rfl) (Nat.le_of_ble_eq_true rfl) dX11_count_126
