theorem iw_X11_ship_X11 : ∀ w ∈ wsX110, w ∈ wsX11_ship := by decide +kernel
theorem iw_X11_ship_X2 : ∀ w ∈ wsX20, w ∈ wsX11_ship := by decide +kernel
theorem iw_X11_ship_X8 : ∀ w ∈ wsX80, w ∈ wsX11_ship := by decide +kernel
set_option maxHeartbeats 4000000 in
set_option maxRecDepth 100000 in
theorem c_ship (l : Launch) (D : va_G) (cy : Nat → ClassId) (xh : Nat) (xq : Nat → Nat) (xa : Int32) (xb : Int32) (xc : Int32) (xd : Int32) (sz : Nat) : Met l yX11_ship wsX11_ship ({ frames := 1, cells := 0, slots := 0, locals := 22 }) (wPre D cy [.ref xh, .int xa, .int xb, .int xc, .int xd] sz [(xc0 cy xh xq), (xc24 cy xh xq), (xc34 cy xh xq)]) (wQi D (fShip xa xb xc xd) (fun _ : Unit => True) (fun _u : Unit => []) (va_A [(xc0 cy xh xq), (xc24 cy xh xq), (xc34 cy xh xq)] sz)) 0 0 (va_A [(xc0 cy xh xq), (xc24 cy xh xq), (xc34 cy xh xq)] sz) := by
  refine met_go (y := yX11_ship) (ws := wsX11_ship) (av := [.ref xh, .int xa, .int xb, .int xc, .int xd]) (cc := cX11_ship) (maxL := 5) (ret := (some .boolean)) (Qc := fun A => wQi D (fShip xa xb xc xd) (fun _ : Unit => True) (fun _u : Unit => []) A) (by decide) rfl (Nat.le_of_ble_eq_true rfl) ?_
  intro p e s m below meth c ls A hx hb hr hml hown hts hlocks hname hKX hP hD hA hS hl
  have hown : s.vm.findClass RX11 = some m.cls := hown
  have hl : lv_has ls 5 [(0, .ref xh), (1, .int xa), (2, .int xb), (3, .int xc), (4, .int xd)] := hl
  refine lv_iload_n hx hb dX11_ship_0 rfl (lv_at hl 1 rfl) ?_
  refine lv_bipush (v := 40) hx hb dX11_ship_1 (by decide) ?_
  refine lv_sipush (v := 200) hx hb dX11_ship_3 (by decide) ?_
  refine cl_i (wr := [(xc0 cy xh xq), (xc24 cy xh xq), (xc34 cy xh xq)]) (va_runS (As := [.int xa, .int 40, .int 200]) (rest := []) ⟨hx, hb, hml, hown, hts⟩ (c_isWithin l D cy xa 40 200 _) (va_cwS 3 hts gX11_ship_X11_isWithin rfl rfl rfl (by decide +kernel) ⟨(Nat.le_of_ble_eq_true rfl), (Nat.le_of_ble_eq_true rfl)⟩) (pre_S hKX hP hD [] rfl (by decide) rfl) rfl rfl hl.1 rfl (lv_room (Nat.le_of_ble_eq_true rfl)) dX11_ship_6 ⟨(Nat.le_of_ble_eq_true rfl), (Nat.le_of_ble_eq_true rfl)⟩) hP hD hS hA [] [0, 1, 2] rfl rfl (by decide) (by decide) (fun u1 H locs _ hP hD hS => ?_)
  have hP : va_P D vwCl [(xc0 cy xh xq), (xc24 cy xh xq), (xc34 cy xh xq)] H := hP
  have hD : va_D A [(xc0 cy xh xq), (xc24 cy xh xq), (xc34 cy xh xq)] := hD
  refine lv_if_eq (tgt := 45) hx hb dX11_ship_9 (by decide) (fun c2 => ?_) (fun c2 => ?_)
  · refine lv_iconst (v := 0) hx hb dX11_ship_45 (by decide) ?_
    exact en_z hx hb hr hlocks rfl () (by simp [fShip, wic1, wic2, wic3, wic4, wic5, wic6, c2]) trivial (hP.sub [] rfl) (hD.sub [] (by decide) rfl) hS (Nat.le_of_ble_eq_true rfl) (Nat.le_of_ble_eq_true rfl) dX11_ship_46
  · refine lv_iload_n hx hb dX11_ship_12 rfl (lv_at hl 2 rfl) ?_
    refine lv_iconst (v := 0) hx hb dX11_ship_13 (by decide) ?_
    refine lv_sipush (v := 2000) hx hb dX11_ship_14 (by decide) ?_
    refine cl_i (wr := [(xc0 cy xh xq), (xc24 cy xh xq), (xc34 cy xh xq)]) (va_runS (As := [.int xb, .int 0, .int 2000]) (rest := []) ⟨hx, hb, hml, hown, hts⟩ (c_isWithin l D cy xb 0 2000 _) (va_cwS 3 hts gX11_ship_X11_isWithin rfl rfl rfl (by decide +kernel) ⟨(Nat.le_of_ble_eq_true rfl), (Nat.le_of_ble_eq_true rfl)⟩) (pre_S hKX hP hD [] rfl (by decide) rfl) rfl rfl hl.1 rfl (lv_room (Nat.le_of_ble_eq_true rfl)) dX11_ship_17 ⟨(Nat.le_of_ble_eq_true rfl), (Nat.le_of_ble_eq_true rfl)⟩) hP hD hS hA [] [0, 1, 2] rfl rfl (by decide) (by decide) (fun u3 H locs _ hP hD hS => ?_)
    have hP : va_P D vwCl [(xc0 cy xh xq), (xc24 cy xh xq), (xc34 cy xh xq)] H := hP
    have hD : va_D A [(xc0 cy xh xq), (xc24 cy xh xq), (xc34 cy xh xq)] := hD
    refine lv_if_eq (tgt := 45) hx hb dX11_ship_20 (by decide) (fun c4 => ?_) (fun c4 => ?_)
    · refine lv_iconst (v := 0) hx hb dX11_ship_45 (by decide) ?_
      exact en_z hx hb hr hlocks rfl () (by simp [fShip, wic1, wic2, wic3, wic4, wic5, wic6, c2, c4]) trivial (hP.sub [] rfl) (hD.sub [] (by decide) rfl) hS (Nat.le_of_ble_eq_true rfl) (Nat.le_of_ble_eq_true rfl) dX11_ship_46
    · refine lv_iload_n hx hb dX11_ship_23 rfl (lv_at hl 3 rfl) ?_
      refine lv_iconst (v := 0) hx hb dX11_ship_24 (by decide) ?_
      refine lv_bipush (v := 50) hx hb dX11_ship_25 (by decide) ?_
      refine cl_i (wr := [(xc0 cy xh xq), (xc24 cy xh xq), (xc34 cy xh xq)]) (va_runS (As := [.int xc, .int 0, .int 50]) (rest := []) ⟨hx, hb, hml, hown, hts⟩ (c_isWithin l D cy xc 0 50 _) (va_cwS 3 hts gX11_ship_X11_isWithin rfl rfl rfl (by decide +kernel) ⟨(Nat.le_of_ble_eq_true rfl), (Nat.le_of_ble_eq_true rfl)⟩) (pre_S hKX hP hD [] rfl (by decide) rfl) rfl rfl hl.1 rfl (lv_room (Nat.le_of_ble_eq_true rfl)) dX11_ship_27 ⟨(Nat.le_of_ble_eq_true rfl), (Nat.le_of_ble_eq_true rfl)⟩) hP hD hS hA [] [0, 1, 2] rfl rfl (by decide) (by decide) (fun u5 H locs _ hP hD hS => ?_)
      have hP : va_P D vwCl [(xc0 cy xh xq), (xc24 cy xh xq), (xc34 cy xh xq)] H := hP
      have hD : va_D A [(xc0 cy xh xq), (xc24 cy xh xq), (xc34 cy xh xq)] := hD
      refine lv_if_eq (tgt := 45) hx hb dX11_ship_30 (by decide) (fun c6 => ?_) (fun c6 => ?_)
      · refine lv_iconst (v := 0) hx hb dX11_ship_45 (by decide) ?_
        exact en_z hx hb hr hlocks rfl () (by simp [fShip, wic1, wic2, wic3, wic4, wic5, wic6, c2, c4, c6]) trivial (hP.sub [] rfl) (hD.sub [] (by decide) rfl) hS (Nat.le_of_ble_eq_true rfl) (Nat.le_of_ble_eq_true rfl) dX11_ship_46
      · refine lv_iload hx hb dX11_ship_33 (lv_at hl 4 rfl) ?_
        refine lv_iconst (v := 0) hx hb dX11_ship_35 (by decide) ?_
        refine lv_sipush (v := 1000) hx hb dX11_ship_36 (by decide) ?_
        refine cl_i (wr := [(xc0 cy xh xq), (xc24 cy xh xq), (xc34 cy xh xq)]) (va_runS (As := [.int xd, .int 0, .int 1000]) (rest := []) ⟨hx, hb, hml, hown, hts⟩ (c_isWithin l D cy xd 0 1000 _) (va_cwS 3 hts gX11_ship_X11_isWithin rfl rfl rfl (by decide +kernel) ⟨(Nat.le_of_ble_eq_true rfl), (Nat.le_of_ble_eq_true rfl)⟩) (pre_S hKX hP hD [] rfl (by decide) rfl) rfl rfl hl.1 rfl (lv_room (Nat.le_of_ble_eq_true rfl)) dX11_ship_39 ⟨(Nat.le_of_ble_eq_true rfl), (Nat.le_of_ble_eq_true rfl)⟩) hP hD hS hA [] [0, 1, 2] rfl rfl (by decide) (by decide) (fun u7 H locs _ hP hD hS => ?_)
        have hP : va_P D vwCl [(xc0 cy xh xq), (xc24 cy xh xq), (xc34 cy xh xq)] H := hP
        have hD : va_D A [(xc0 cy xh xq), (xc24 cy xh xq), (xc34 cy xh xq)] := hD
        refine lv_if_ne (tgt := 47) hx hb dX11_ship_42 (by decide) (fun c8 => ?_) (fun c8 => ?_)
        · refine lv_aload_n hx hb dX11_ship_47 rfl (lv_at hl 0 rfl) ?_
          refine va_get (D := D) (ci := 11) (v := .ref (xq 23)) (C := RX11) (T := TX11) (N := 18) hx hb hts iw_X11_ship_X11 hown hKX.1 hP 0 rfl rfl 1 (by decide) (hts (.fieldLink RX11 19 "TrainFerry" "deck" "LTrainFerry$Deck;") (by decide +kernel)) (fun _ h9 => h9) rfl dX11_ship_48 ?_
          refine va_get (D := D) (ci := 2) (v := .ref (xq 33)) (C := RX2) (T := TX2) (N := 2) hx hb hts iw_X11_ship_X2 hown hKX.1 hP 1 rfl rfl 1 (by decide) (hts (.fieldLink RX11 95 "TrainFerry$Deck" "tally" "LTrainFerry$Tally;") (by decide +kernel)) (fun _ h9 => h9) rfl dX11_ship_51 ?_
          refine va_get (D := D) (ci := 8) (v := .int 0) (C := RX8) (T := TX8) (N := 10) hx hb hts iw_X11_ship_X8 hown hKX.1 hP 2 rfl rfl 4 (by decide) (hts (.fieldLink RX11 99 "TrainFerry$Tally" "allWagons" "I") (by decide +kernel)) (fun _ h9 => h9) rfl dX11_ship_54 ?_
          refine lv_if_le (tgt := 62) hx hb dX11_ship_57 (by decide) (fun _ => ?_) (fun c9 => absurd (by decide) c9)
          refine lv_aload_n hx hb dX11_ship_62 rfl (lv_at hl 0 rfl) ?_
          refine va_get (D := D) (ci := 11) (v := .ref (xq 23)) (C := RX11) (T := TX11) (N := 18) hx hb hts iw_X11_ship_X11 hown hKX.1 hP 0 rfl rfl 1 (by decide) (hts (.fieldLink RX11 19 "TrainFerry" "deck" "LTrainFerry$Deck;") (by decide +kernel)) (fun _ h9 => h9) rfl dX11_ship_63 ?_
          refine va_get (D := D) (ci := 2) (v := .ref (xq 33)) (C := RX2) (T := TX2) (N := 2) hx hb hts iw_X11_ship_X2 hown hKX.1 hP 1 rfl rfl 1 (by decide) (hts (.fieldLink RX11 95 "TrainFerry$Deck" "tally" "LTrainFerry$Tally;") (by decide +kernel)) (fun _ h9 => h9) rfl dX11_ship_66 ?_
          refine lv_iload_n hx hb dX11_ship_69 rfl (lv_at hl 1 rfl) ?_
          refine va_put (D := D) (ci := 8) (v := .int xa) (ty := .int) (C := RX8) (T := TX8) (N := 10) hx hb hts iw_X11_ship_X8 tyX8 tyX8_ok nmX8 hown hKX.1 hP hD hS 2 rfl rfl 8 (by decide) (hts (.fieldLink RX11 104 "TrainFerry$Tally" "room" "I") (by decide +kernel)) (fun _ h9 => h9) rfl (by decide +kernel) rfl rfl (Nat.le_of_ble_eq_true rfl) dX11_ship_70 (fun H locs hP hD hS => ?_)
          have hP : va_P D vwCl [(xc0 cy xh xq), (xc24 cy xh xq), ((xq 33), .inr (8, [.ref (xq 34), .ref (xq 35), .ref (xq 36), .ref (xq 37), .int 0, .int 0, .int 0, .int 0, .int xa, .int 200]))] H := hP
          have hD : va_D A [(xc0 cy xh xq), (xc24 cy xh xq), ((xq 33), .inr (8, [.ref (xq 34), .ref (xq 35), .ref (xq 36), .ref (xq 37), .int 0, .int 0, .int 0, .int 0, .int xa, .int 200]))] := hD
          refine lv_aload_n hx hb dX11_ship_73 rfl (lv_at hl 0 rfl) ?_
          refine va_get (D := D) (ci := 11) (v := .ref (xq 23)) (C := RX11) (T := TX11) (N := 18) hx hb hts iw_X11_ship_X11 hown hKX.1 hP 0 rfl rfl 1 (by decide) (hts (.fieldLink RX11 19 "TrainFerry" "deck" "LTrainFerry$Deck;") (by decide +kernel)) (fun _ h9 => h9) rfl dX11_ship_74 ?_
          refine va_get (D := D) (ci := 2) (v := .ref (xq 33)) (C := RX2) (T := TX2) (N := 2) hx hb hts iw_X11_ship_X2 hown hKX.1 hP 1 rfl rfl 1 (by decide) (hts (.fieldLink RX11 95 "TrainFerry$Deck" "tally" "LTrainFerry$Tally;") (by decide +kernel)) (fun _ h9 => h9) rfl dX11_ship_77 ?_
          refine lv_iload_n hx hb dX11_ship_80 rfl (lv_at hl 2 rfl) ?_
          refine va_put (D := D) (ci := 8) (v := .int xb) (ty := .int) (C := RX8) (T := TX8) (N := 10) hx hb hts iw_X11_ship_X8 tyX8 tyX8_ok nmX8 hown hKX.1 hP hD hS 2 rfl rfl 9 (by decide) (hts (.fieldLink RX11 107 "TrainFerry$Tally" "limit" "I") (by decide +kernel)) (fun _ h9 => h9) rfl (by decide +kernel) rfl rfl (Nat.le_of_ble_eq_true rfl) dX11_ship_81 (fun H locs hP hD hS => ?_)
          have hP : va_P D vwCl [(xc0 cy xh xq), (xc24 cy xh xq), ((xq 33), .inr (8, [.ref (xq 34), .ref (xq 35), .ref (xq 36), .ref (xq 37), .int 0, .int 0, .int 0, .int 0, .int xa, .int xb]))] H := hP
          have hD : va_D A [(xc0 cy xh xq), (xc24 cy xh xq), ((xq 33), .inr (8, [.ref (xq 34), .ref (xq 35), .ref (xq 36), .ref (xq 37), .int 0, .int 0, .int 0, .int 0, .int xa, .int xb]))] := hD
          refine lv_aload_n hx hb dX11_ship_84 rfl (lv_at hl 0 rfl) ?_
          refine lv_iload_n hx hb dX11_ship_85 rfl (lv_at hl 3 rfl) ?_
          refine va_put (D := D) (ci := 11) (v := .int xc) (ty := .int) (C := RX11) (T := TX11) (N := 18) hx hb hts iw_X11_ship_X11 tyX11 tyX11_ok nmX11 hown hKX.1 hP hD hS 0 rfl rfl 16 (by decide) (hts (.fieldLink RX11 85 "TrainFerry" "reach" "I") (by decide +kernel)) (fun _ h9 => h9) rfl (by decide +kernel) rfl rfl (Nat.le_of_ble_eq_true rfl) dX11_ship_86 (fun H locs hP hD hS => ?_)
          have hP : va_P D vwCl [(xh, .inr (11, [.ref (xq 0), .ref (xq 23), .ref (xq 38), .ref (xq 39), .ref (xq 42), .ref (xq 43), .null, .null, .int 0, .int 0, .int 0, .int 0, .int 0, .int (-1), .int 0, .int 0, .int xc, .int 100])), (xc24 cy xh xq), ((xq 33), .inr (8, [.ref (xq 34), .ref (xq 35), .ref (xq 36), .ref (xq 37), .int 0, .int 0, .int 0, .int 0, .int xa, .int xb]))] H := hP
          have hD : va_D A [(xh, .inr (11, [.ref (xq 0), .ref (xq 23), .ref (xq 38), .ref (xq 39), .ref (xq 42), .ref (xq 43), .null, .null, .int 0, .int 0, .int 0, .int 0, .int 0, .int (-1), .int 0, .int 0, .int xc, .int 100])), (xc24 cy xh xq), ((xq 33), .inr (8, [.ref (xq 34), .ref (xq 35), .ref (xq 36), .ref (xq 37), .int 0, .int 0, .int 0, .int 0, .int xa, .int xb]))] := hD
          refine lv_aload_n hx hb dX11_ship_89 rfl (lv_at hl 0 rfl) ?_
          refine lv_iload hx hb dX11_ship_90 (lv_at hl 4 rfl) ?_
          refine va_put (D := D) (ci := 11) (v := .int xd) (ty := .int) (C := RX11) (T := TX11) (N := 18) hx hb hts iw_X11_ship_X11 tyX11 tyX11_ok nmX11 hown hKX.1 hP hD hS 0 rfl rfl 17 (by decide) (hts (.fieldLink RX11 88 "TrainFerry" "chains" "I") (by decide +kernel)) (fun _ h9 => h9) rfl (by decide +kernel) rfl rfl (Nat.le_of_ble_eq_true rfl) dX11_ship_92 (fun H locs hP hD hS => ?_)
          have hP : va_P D vwCl [(xh, .inr (11, [.ref (xq 0), .ref (xq 23), .ref (xq 38), .ref (xq 39), .ref (xq 42), .ref (xq 43), .null, .null, .int 0, .int 0, .int 0, .int 0, .int 0, .int (-1), .int 0, .int 0, .int xc, .int xd])), (xc24 cy xh xq), ((xq 33), .inr (8, [.ref (xq 34), .ref (xq 35), .ref (xq 36), .ref (xq 37), .int 0, .int 0, .int 0, .int 0, .int xa, .int xb]))] H := hP
          have hD : va_D A [(xh, .inr (11, [.ref (xq 0), .ref (xq 23), .ref (xq 38), .ref (xq 39), .ref (xq 42), .ref (xq 43), .null, .null, .int 0, .int 0, .int 0, .int 0, .int 0, .int (-1), .int 0, .int 0, .int xc, .int xd])), (xc24 cy xh xq), ((xq 33), .inr (8, [.ref (xq 34), .ref (xq 35), .ref (xq 36), .ref (xq 37), .int 0, .int 0, .int 0, .int 0, .int xa, .int xb]))] := hD
          refine lv_iconst (v := 1) hx hb dX11_ship_95 (by decide) ?_
          exact en_z hx hb hr hlocks rfl () (by simp [fShip, wic1, wic2, wic3, wic4, wic5, wic6, c2, c4, c6, c8]) trivial (hP.sub [] rfl) (hD.sub [] (by decide) rfl) hS (Nat.le_of_ble_eq_true rfl) (Nat.le_of_ble_eq_true rfl) dX11_ship_96
        · refine lv_iconst (v := 0) hx hb dX11_ship_45 (by decide) ?_
          exact en_z hx hb hr hlocks rfl () (by simp [fShip, wic1, wic2, wic3, wic4, wic5, wic6, c2, c4, c6, c8]) trivial (hP.sub [] rfl) (hD.sub [] (by decide) rfl) hS (Nat.le_of_ble_eq_true rfl) (Nat.le_of_ble_eq_true rfl) dX11_ship_46
theorem iw_X11_wagon_X11 : ∀ w ∈ wsX110, w ∈ wsX11_wagon := by decide +kernel
theorem iw_X11_wagon_X10 : ∀ w ∈ wsX100, w ∈ wsX11_wagon := by decide +kernel
set_option maxHeartbeats 4000000 in
set_option maxRecDepth 100000 in
theorem c_wagon (l : Launch) (D : va_G) (cy : Nat → ClassId) (xh : Nat) (xq : Nat → Nat) (xs : Int32) (xt : Int32) (xa : Int32) (xb : Int32) (xc : Int32) (sz : Nat) : Met l yX11_wagon wsX11_wagon ({ frames := 3, cells := 2, slots := 16, locals := 64 }) (wPre D cy [.ref xh, .int xs, .int xt, .int xa, .int xb, .int xc] sz [(xc0 cy xh xq), (xc1 cy xh xq), (xc2 cy xh xq), (xc3 cy xh xq), (xc4 cy xh xq), (xc5 cy xh xq), (xc6 cy xh xq), (xc7 cy xh xq), (xc8 cy xh xq), (xc9 cy xh xq), (xc13 cy xh xq), (xc14 cy xh xq), (xc15 cy xh xq), (xc16 cy xh xq), (xc17 cy xh xq), (xc18 cy xh xq), (xc19 cy xh xq), (xc20 cy xh xq), (xc39 cy xh xq)]) (wQi D (fWagon xs xt xa xb xc) (fun _ : Unit => True) (fun _u : Unit => []) (va_A [(xc0 cy xh xq), (xc1 cy xh xq), (xc2 cy xh xq), (xc3 cy xh xq), (xc4 cy xh xq), (xc5 cy xh xq), (xc6 cy xh xq), (xc7 cy xh xq), (xc8 cy xh xq), (xc9 cy xh xq), (xc13 cy xh xq), (xc14 cy xh xq), (xc15 cy xh xq), (xc16 cy xh xq), (xc17 cy xh xq), (xc18 cy xh xq), (xc19 cy xh xq), (xc20 cy xh xq), (xc39 cy xh xq)] sz)) 2 16 (va_A [(xc0 cy xh xq), (xc1 cy xh xq), (xc2 cy xh xq), (xc3 cy xh xq), (xc4 cy xh xq), (xc5 cy xh xq), (xc6 cy xh xq), (xc7 cy xh xq), (xc8 cy xh xq), (xc9 cy xh xq), (xc13 cy xh xq), (xc14 cy xh xq), (xc15 cy xh xq), (xc16 cy xh xq), (xc17 cy xh xq), (xc18 cy xh xq), (xc19 cy xh xq), (xc20 cy xh xq), (xc39 cy xh xq)] sz) := by
  refine met_go (y := yX11_wagon) (ws := wsX11_wagon) (av := [.ref xh, .int xs, .int xt, .int xa, .int xb, .int xc]) (cc := cX11_wagon) (maxL := 8) (ret := (some .int)) (Qc := fun A => wQi D (fWagon xs xt xa xb xc) (fun _ : Unit => True) (fun _u : Unit => []) A) (by decide) rfl (Nat.le_of_ble_eq_true rfl) ?_
  intro p e s m below meth c ls A hx hb hr hml hown hts hlocks hname hKX hP hD hA hS hl
  have hown : s.vm.findClass RX11 = some m.cls := hown
  have hl : lv_has ls 8 [(0, .ref xh), (1, .int xs), (2, .int xt), (3, .int xa), (4, .int xb), (5, .int xc)] := hl
  rcases sp2 xs with rfl | rfl | o1
  · rcases sp3 xt with rfl | rfl | rfl | o2
    · refine lv_aload_n hx hb dX11_wagon_0 rfl (lv_at hl 0 rfl) ?_
      refine lv_iload_n hx hb dX11_wagon_1 rfl (lv_at hl 1 rfl) ?_
      refine lv_iload_n hx hb dX11_wagon_2 rfl (lv_at hl 2 rfl) ?_
      refine cl_q (wr := [(xc4 cy xh xq), (xc5 cy xh xq), (xc6 cy xh xq), (xc7 cy xh xq), (xc8 cy xh xq), (xc9 cy xh xq), (xc13 cy xh xq), (xc14 cy xh xq), (xc15 cy xh xq), (xc16 cy xh xq), (xc17 cy xh xq), (xc18 cy xh xq), (xc19 cy xh xq), (xc20 cy xh xq), (xc39 cy xh xq)]) (va_runV (As := [.int 0, .int 0]) (rest := []) ⟨hx, hb, hml, hown, hts⟩ (c_yardRow_00 l D cy xh xq _) (cwV 2 hts gX11_wagon_X11_yardRow rfl rfl rfl (by decide +kernel) ⟨(Nat.le_of_ble_eq_true rfl), (Nat.le_of_ble_eq_true rfl)⟩) (pre_V hKX hP hD (ci := 11) (q0 := 0) rfl rfl [0, 1, 2, 3] rfl (by decide) rfl) rfl rfl hl.1 rfl (lv_room (Nat.le_of_ble_eq_true rfl)) dX11_wagon_3 ⟨(Nat.le_of_ble_eq_true rfl), (Nat.le_of_ble_eq_true rfl)⟩) hP hD hS hA [0, 1, 2, 3] [4, 5, 6, 7, 8, 9, 10, 11, 12, 13, 14, 15, 16, 17, 18] rfl rfl (by decide) (by decide) (fun u3 H locs _ hP hD hS => ?_)
      have hP : va_P D vwCl [(xc4 cy xh xq), (xc5 cy xh xq), (xc6 cy xh xq), (xc7 cy xh xq), (xc8 cy xh xq), (xc9 cy xh xq), (xc13 cy xh xq), (xc14 cy xh xq), (xc15 cy xh xq), (xc16 cy xh xq), (xc17 cy xh xq), (xc18 cy xh xq), (xc19 cy xh xq), (xc20 cy xh xq), (xc39 cy xh xq), (xc0 cy xh xq), (xc1 cy xh xq), (xc2 cy xh xq), (xc3 cy xh xq)] H := hP
      have hD : va_D A [(xc4 cy xh xq), (xc5 cy xh xq), (xc6 cy xh xq), (xc7 cy xh xq), (xc8 cy xh xq), (xc9 cy xh xq), (xc13 cy xh xq), (xc14 cy xh xq), (xc15 cy xh xq), (xc16 cy xh xq), (xc17 cy xh xq), (xc18 cy xh xq), (xc19 cy xh xq), (xc20 cy xh xq), (xc39 cy xh xq), (xc0 cy xh xq), (xc1 cy xh xq), (xc2 cy xh xq), (xc3 cy xh xq)] := hD
      refine lv_csv (.ref (xq 3)) rfl ?_
      refine lv_astore (lv' := [(6, .ref (xq 3)), (0, .ref xh), (1, .int 0), (2, .int 0), (3, .int xa), (4, .int xb), (5, .int xc)]) hx hb dX11_wagon_6 hl (by decide) rfl (fun ls hl => ?_)
      refine lv_aload hx hb dX11_wagon_8 (lv_at hl 0 rfl) ?_
      refine lv_ifnull hx hb dX11_wagon_10 ?_
      refine lv_aload_n hx hb dX11_wagon_13 rfl (lv_at hl 1 rfl) ?_
      refine va_get (D := D) (ci := 11) (v := .int 0) (C := RX11) (T := TX11) (N := 18) hx hb hts iw_X11_wagon_X11 hown hKX.1 hP 15 rfl rfl 9 (by decide) (hts (.fieldLink RX11 63 "TrainFerry" "wagonsCome" "I") (by decide +kernel)) (fun _ h9 => h9) rfl dX11_wagon_14 ?_
      refine lv_bipush (v := 100) hx hb dX11_wagon_17 (by decide) ?_
      refine lv_icmp_lt (tgt := 24) hx hb dX11_wagon_19 (by decide) (fun _ => ?_) (fun c9 => absurd (by decide) c9)
      refine lv_iload_n hx hb dX11_wagon_24 rfl (lv_at hl 4 rfl) ?_
      refine lv_bipush (v := 6) hx hb dX11_wagon_25 (by decide) ?_
      refine lv_bipush (v := 26) hx hb dX11_wagon_27 (by decide) ?_
      refine cl_i (wr := [(xc4 cy xh xq), (xc5 cy xh xq), (xc6 cy xh xq), (xc7 cy xh xq), (xc8 cy xh xq), (xc9 cy xh xq), (xc13 cy xh xq), (xc14 cy xh xq), (xc15 cy xh xq), (xc16 cy xh xq), (xc17 cy xh xq), (xc18 cy xh xq), (xc19 cy xh xq), (xc20 cy xh xq), (xc39 cy xh xq), (xc0 cy xh xq), (xc1 cy xh xq), (xc2 cy xh xq), (xc3 cy xh xq)]) (va_runS (As := [.int xa, .int 6, .int 26]) (rest := []) ⟨hx, hb, hml, hown, hts⟩ (c_isWithin l D cy xa 6 26 _) (va_cwS 3 hts gX11_wagon_X11_isWithin rfl rfl rfl (by decide +kernel) ⟨(Nat.le_of_ble_eq_true rfl), (Nat.le_of_ble_eq_true rfl)⟩) (pre_S hKX hP hD [] rfl (by decide) rfl) rfl rfl hl.1 rfl (lv_room (Nat.le_of_ble_eq_true rfl)) dX11_wagon_29 ⟨(Nat.le_of_ble_eq_true rfl), (Nat.le_of_ble_eq_true rfl)⟩) hP hD hS hA [] [0, 1, 2, 3, 4, 5, 6, 7, 8, 9, 10, 11, 12, 13, 14, 15, 16, 17, 18] rfl rfl (by decide) (by decide) (fun u4 H locs _ hP hD hS => ?_)
      have hP : va_P D vwCl [(xc4 cy xh xq), (xc5 cy xh xq), (xc6 cy xh xq), (xc7 cy xh xq), (xc8 cy xh xq), (xc9 cy xh xq), (xc13 cy xh xq), (xc14 cy xh xq), (xc15 cy xh xq), (xc16 cy xh xq), (xc17 cy xh xq), (xc18 cy xh xq), (xc19 cy xh xq), (xc20 cy xh xq), (xc39 cy xh xq), (xc0 cy xh xq), (xc1 cy xh xq), (xc2 cy xh xq), (xc3 cy xh xq)] H := hP
      have hD : va_D A [(xc4 cy xh xq), (xc5 cy xh xq), (xc6 cy xh xq), (xc7 cy xh xq), (xc8 cy xh xq), (xc9 cy xh xq), (xc13 cy xh xq), (xc14 cy xh xq), (xc15 cy xh xq), (xc16 cy xh xq), (xc17 cy xh xq), (xc18 cy xh xq), (xc19 cy xh xq), (xc20 cy xh xq), (xc39 cy xh xq), (xc0 cy xh xq), (xc1 cy xh xq), (xc2 cy xh xq), (xc3 cy xh xq)] := hD
      refine lv_if_eq (tgt := 57) hx hb dX11_wagon_32 (by decide) (fun c5 => ?_) (fun c5 => ?_)
      · refine lv_iconst (v := (-1)) hx hb dX11_wagon_57 (by decide) ?_
        exact en_i hx hb hr hlocks () (by simp [fWagon, wic1, wic2, wic3, wic4, wic5, wic6, c5]) trivial (hP.sub [] rfl) (hD.sub [] (by decide) rfl) hS (Nat.le_of_ble_eq_true rfl) (Nat.le_of_ble_eq_true rfl) dX11_wagon_58
      · refine lv_iload hx hb dX11_wagon_35 (lv_at hl 5 rfl) ?_
        refine lv_bipush (v := 10) hx hb dX11_wagon_37 (by decide) ?_
        refine lv_bipush (v := 90) hx hb dX11_wagon_39 (by decide) ?_
        refine cl_i (wr := [(xc4 cy xh xq), (xc5 cy xh xq), (xc6 cy xh xq), (xc7 cy xh xq), (xc8 cy xh xq), (xc9 cy xh xq), (xc13 cy xh xq), (xc14 cy xh xq), (xc15 cy xh xq), (xc16 cy xh xq), (xc17 cy xh xq), (xc18 cy xh xq), (xc19 cy xh xq), (xc20 cy xh xq), (xc39 cy xh xq), (xc0 cy xh xq), (xc1 cy xh xq), (xc2 cy xh xq), (xc3 cy xh xq)]) (va_runS (As := [.int xb, .int 10, .int 90]) (rest := []) ⟨hx, hb, hml, hown, hts⟩ (c_isWithin l D cy xb 10 90 _) (va_cwS 3 hts gX11_wagon_X11_isWithin rfl rfl rfl (by decide +kernel) ⟨(Nat.le_of_ble_eq_true rfl), (Nat.le_of_ble_eq_true rfl)⟩) (pre_S hKX hP hD [] rfl (by decide) rfl) rfl rfl hl.1 rfl (lv_room (Nat.le_of_ble_eq_true rfl)) dX11_wagon_41 ⟨(Nat.le_of_ble_eq_true rfl), (Nat.le_of_ble_eq_true rfl)⟩) hP hD hS hA [] [0, 1, 2, 3, 4, 5, 6, 7, 8, 9, 10, 11, 12, 13, 14, 15, 16, 17, 18] rfl rfl (by decide) (by decide) (fun u6 H locs _ hP hD hS => ?_)
        have hP : va_P D vwCl [(xc4 cy xh xq), (xc5 cy xh xq), (xc6 cy xh xq), (xc7 cy xh xq), (xc8 cy xh xq), (xc9 cy xh xq), (xc13 cy xh xq), (xc14 cy xh xq), (xc15 cy xh xq), (xc16 cy xh xq), (xc17 cy xh xq), (xc18 cy xh xq), (xc19 cy xh xq), (xc20 cy xh xq), (xc39 cy xh xq), (xc0 cy xh xq), (xc1 cy xh xq), (xc2 cy xh xq), (xc3 cy xh xq)] H := hP
        have hD : va_D A [(xc4 cy xh xq), (xc5 cy xh xq), (xc6 cy xh xq), (xc7 cy xh xq), (xc8 cy xh xq), (xc9 cy xh xq), (xc13 cy xh xq), (xc14 cy xh xq), (xc15 cy xh xq), (xc16 cy xh xq), (xc17 cy xh xq), (xc18 cy xh xq), (xc19 cy xh xq), (xc20 cy xh xq), (xc39 cy xh xq), (xc0 cy xh xq), (xc1 cy xh xq), (xc2 cy xh xq), (xc3 cy xh xq)] := hD
        refine lv_if_eq (tgt := 57) hx hb dX11_wagon_44 (by decide) (fun c7 => ?_) (fun c7 => ?_)
        · refine lv_iconst (v := (-1)) hx hb dX11_wagon_57 (by decide) ?_
          exact en_i hx hb hr hlocks () (by simp [fWagon, wic1, wic2, wic3, wic4, wic5, wic6, c5, c7]) trivial (hP.sub [] rfl) (hD.sub [] (by decide) rfl) hS (Nat.le_of_ble_eq_true rfl) (Nat.le_of_ble_eq_true rfl) dX11_wagon_58
        · refine lv_iload hx hb dX11_wagon_47 (lv_at hl 6 rfl) ?_
          refine lv_iconst (v := 0) hx hb dX11_wagon_49 (by decide) ?_
          refine lv_iconst (v := 3) hx hb dX11_wagon_50 (by decide) ?_
          refine cl_i (wr := [(xc4 cy xh xq), (xc5 cy xh xq), (xc6 cy xh xq), (xc7 cy xh xq), (xc8 cy xh xq), (xc9 cy xh xq), (xc13 cy xh xq), (xc14 cy xh xq), (xc15 cy xh xq), (xc16 cy xh xq), (xc17 cy xh xq), (xc18 cy xh xq), (xc19 cy xh xq), (xc20 cy xh xq), (xc39 cy xh xq), (xc0 cy xh xq), (xc1 cy xh xq), (xc2 cy xh xq), (xc3 cy xh xq)]) (va_runS (As := [.int xc, .int 0, .int 3]) (rest := []) ⟨hx, hb, hml, hown, hts⟩ (c_isWithin l D cy xc 0 3 _) (va_cwS 3 hts gX11_wagon_X11_isWithin rfl rfl rfl (by decide +kernel) ⟨(Nat.le_of_ble_eq_true rfl), (Nat.le_of_ble_eq_true rfl)⟩) (pre_S hKX hP hD [] rfl (by decide) rfl) rfl rfl hl.1 rfl (lv_room (Nat.le_of_ble_eq_true rfl)) dX11_wagon_51 ⟨(Nat.le_of_ble_eq_true rfl), (Nat.le_of_ble_eq_true rfl)⟩) hP hD hS hA [] [0, 1, 2, 3, 4, 5, 6, 7, 8, 9, 10, 11, 12, 13, 14, 15, 16, 17, 18] rfl rfl (by decide) (by decide) (fun u8 H locs _ hP hD hS => ?_)
          have hP : va_P D vwCl [(xc4 cy xh xq), (xc5 cy xh xq), (xc6 cy xh xq), (xc7 cy xh xq), (xc8 cy xh xq), (xc9 cy xh xq), (xc13 cy xh xq), (xc14 cy xh xq), (xc15 cy xh xq), (xc16 cy xh xq), (xc17 cy xh xq), (xc18 cy xh xq), (xc19 cy xh xq), (xc20 cy xh xq), (xc39 cy xh xq), (xc0 cy xh xq), (xc1 cy xh xq), (xc2 cy xh xq), (xc3 cy xh xq)] H := hP
          have hD : va_D A [(xc4 cy xh xq), (xc5 cy xh xq), (xc6 cy xh xq), (xc7 cy xh xq), (xc8 cy xh xq), (xc9 cy xh xq), (xc13 cy xh xq), (xc14 cy xh xq), (xc15 cy xh xq), (xc16 cy xh xq), (xc17 cy xh xq), (xc18 cy xh xq), (xc19 cy xh xq), (xc20 cy xh xq), (xc39 cy xh xq), (xc0 cy xh xq), (xc1 cy xh xq), (xc2 cy xh xq), (xc3 cy xh xq)] := hD
          refine lv_if_ne (tgt := 59) hx hb dX11_wagon_54 (by decide) (fun c9 => ?_) (fun c9 => ?_)
          · refine lv_aload hx hb dX11_wagon_59 (lv_at hl 0 rfl) ?_
            refine lv_iload_n hx hb dX11_wagon_61 rfl (lv_at hl 4 rfl) ?_
            refine lv_sipush (v := 200) hx hb dX11_wagon_62 (by decide) ?_
            refine cl_i (wr := [(xc6 cy xh xq), (xc7 cy xh xq), (xc8 cy xh xq), (xc9 cy xh xq), (xc13 cy xh xq), (xc14 cy xh xq), (xc15 cy xh xq), (xc16 cy xh xq), (xc17 cy xh xq), (xc18 cy xh xq), (xc19 cy xh xq), (xc20 cy xh xq), (xc39 cy xh xq), (xc0 cy xh xq), (xc1 cy xh xq), (xc2 cy xh xq), (xc3 cy xh xq)]) (va_runV (As := [.int xa, .int 200]) (rest := []) ⟨hx, hb, hml, hown, hts⟩ (c_hasRoom l D cy (xq 3) (xq 4) xa c5 _) (cwV 2 hts gX11_wagon_X5_hasRoom rfl rfl rfl (by decide +kernel) ⟨(Nat.le_of_ble_eq_true rfl), (Nat.le_of_ble_eq_true rfl)⟩) (pre_V hKX hP hD (ci := 5) (q0 := 0) rfl rfl [0, 1] rfl (by decide) rfl) rfl rfl hl.1 rfl (lv_room (Nat.le_of_ble_eq_true rfl)) dX11_wagon_65 ⟨(Nat.le_of_ble_eq_true rfl), (Nat.le_of_ble_eq_true rfl)⟩) hP hD hS hA [0, 1] [2, 3, 4, 5, 6, 7, 8, 9, 10, 11, 12, 13, 14, 15, 16, 17, 18] rfl rfl (by decide) (by decide) (fun u10 H locs _ hP hD hS => ?_)
            have hP : va_P D vwCl [(xc6 cy xh xq), (xc7 cy xh xq), (xc8 cy xh xq), (xc9 cy xh xq), (xc13 cy xh xq), (xc14 cy xh xq), (xc15 cy xh xq), (xc16 cy xh xq), (xc17 cy xh xq), (xc18 cy xh xq), (xc19 cy xh xq), (xc20 cy xh xq), (xc39 cy xh xq), (xc0 cy xh xq), (xc1 cy xh xq), (xc2 cy xh xq), (xc3 cy xh xq), ((xq 3), .inr (5, [.ref (xq 4), .int 0, .int 0])), ((xq 4), .inl (cy 6, 33, .inr (.inr (.inr (.inr (fun _ => none))))))] H := hP
            have hD : va_D A [(xc6 cy xh xq), (xc7 cy xh xq), (xc8 cy xh xq), (xc9 cy xh xq), (xc13 cy xh xq), (xc14 cy xh xq), (xc15 cy xh xq), (xc16 cy xh xq), (xc17 cy xh xq), (xc18 cy xh xq), (xc19 cy xh xq), (xc20 cy xh xq), (xc39 cy xh xq), (xc0 cy xh xq), (xc1 cy xh xq), (xc2 cy xh xq), (xc3 cy xh xq), ((xq 3), .inr (5, [.ref (xq 4), .int 0, .int 0])), ((xq 4), .inl (cy 6, 33, .inr (.inr (.inr (.inr (fun _ => none))))))] := hD
            refine lv_if_ne (tgt := 73) hx hb dX11_wagon_68 (by decide) (fun _ => ?_) (fun c9 => absurd c9 (by decide))
            refine va_new (ci := 10) (fs := [.int 0, .int 0, .int 0, .int 0, .int 0, .null, .int 0, .int 0, .int 0, .int 0, .int 0, .int 0]) (C := RX10) (T := TX10) (N := 12) hx hb hts iw_X11_wagon_X10 tyX10 tyX10_ok hown (hts (.classLink RX11 23 RX10) (by decide +kernel)) (hts (.instantiable RX10 12) (by decide +kernel)) (hts (.initialized RX10) (by decide +kernel)) hKX.1 hP hD hS hA rfl (fun j hj => by rcases (show j = 0 ∨ j = 1 ∨ j = 2 ∨ j = 3 ∨ j = 4 ∨ j = 5 ∨ j = 6 ∨ j = 7 ∨ j = 8 ∨ j = 9 ∨ j = 10 ∨ j = 11 by omega) with rfl | rfl | rfl | rfl | rfl | rfl | rfl | rfl | rfl | rfl | rfl | rfl <;> rfl) (Nat.le_of_ble_eq_true rfl) (Nat.le_of_ble_eq_true rfl) dX11_wagon_73 (fun q11 H hP hD hS => ?_)
            have hP : va_P D vwCl [(xc6 cy xh xq), (xc7 cy xh xq), (xc8 cy xh xq), (xc9 cy xh xq), (xc13 cy xh xq), (xc14 cy xh xq), (xc15 cy xh xq), (xc16 cy xh xq), (xc17 cy xh xq), (xc18 cy xh xq), (xc19 cy xh xq), (xc20 cy xh xq), (xc39 cy xh xq), (xc0 cy xh xq), (xc1 cy xh xq), (xc2 cy xh xq), (xc3 cy xh xq), ((xq 3), .inr (5, [.ref (xq 4), .int 0, .int 0])), ((xq 4), .inl (cy 6, 33, .inr (.inr (.inr (.inr (fun _ => none)))))), (q11, .inr (10, [.int 0, .int 0, .int 0, .int 0, .int 0, .null, .int 0, .int 0, .int 0, .int 0, .int 0, .int 0]))] H := hP
            have hD : va_D A [(xc6 cy xh xq), (xc7 cy xh xq), (xc8 cy xh xq), (xc9 cy xh xq), (xc13 cy xh xq), (xc14 cy xh xq), (xc15 cy xh xq), (xc16 cy xh xq), (xc17 cy xh xq), (xc18 cy xh xq), (xc19 cy xh xq), (xc20 cy xh xq), (xc39 cy xh xq), (xc0 cy xh xq), (xc1 cy xh xq), (xc2 cy xh xq), (xc3 cy xh xq), ((xq 3), .inr (5, [.ref (xq 4), .int 0, .int 0])), ((xq 4), .inl (cy 6, 33, .inr (.inr (.inr (.inr (fun _ => none)))))), (q11, .inr (10, [.int 0, .int 0, .int 0, .int 0, .int 0, .null, .int 0, .int 0, .int 0, .int 0, .int 0, .int 0]))] := hD
            refine lv_dup hx hb dX11_wagon_76 rfl ?_
            refine lv_aload_n hx hb dX11_wagon_77 rfl (lv_at hl 1 rfl) ?_
            refine va_get (D := D) (ci := 11) (v := .int 0) (C := RX11) (T := TX11) (N := 18) hx hb hts iw_X11_wagon_X11 hown hKX.1 hP 13 rfl rfl 9 (by decide) (hts (.fieldLink RX11 63 "TrainFerry" "wagonsCome" "I") (by decide +kernel)) (fun _ h9 => h9) rfl dX11_wagon_78 ?_
            refine lv_iload_n hx hb dX11_wagon_81 rfl (lv_at hl 2 rfl) ?_
            refine lv_iload_n hx hb dX11_wagon_82 rfl (lv_at hl 4 rfl) ?_
            refine lv_iload hx hb dX11_wagon_83 (lv_at hl 5 rfl) ?_
            refine lv_iload hx hb dX11_wagon_85 (lv_at hl 6 rfl) ?_
            refine cl_v (wr := [(xc6 cy xh xq), (xc7 cy xh xq), (xc8 cy xh xq), (xc9 cy xh xq), (xc13 cy xh xq), (xc14 cy xh xq), (xc15 cy xh xq), (xc16 cy xh xq), (xc17 cy xh xq), (xc18 cy xh xq), (xc19 cy xh xq), (xc20 cy xh xq), (xc39 cy xh xq), (xc0 cy xh xq), (xc1 cy xh xq), (xc2 cy xh xq), (xc3 cy xh xq), ((xq 3), .inr (5, [.ref (xq 4), .int 0, .int 0])), ((xq 4), .inl (cy 6, 33, .inr (.inr (.inr (.inr (fun _ => none))))))]) (va_runI (As := [.int 0, .int 0, .int xa, .int xb, .int xc]) (rest := [.ref q11]) ⟨hx, hb, hml, hown, hts⟩ (c_Wagon_init l D cy q11 0 0 xa xb xc _) (cwI 5 hts gX11_wagon_X10_init rfl rfl rfl (hts (.initialized RX10) (by decide +kernel)) (hts (.methodLink RX11 120 yX10_init) (by decide +kernel)) (hts (.instanceMethod yX10_init) (by decide +kernel)) rfl (by decide +kernel) ⟨(Nat.le_of_ble_eq_true rfl), (Nat.le_of_ble_eq_true rfl)⟩) (pre_S hKX hP hD [19] rfl (by decide) rfl) rfl rfl hl.1 rfl (lv_room (Nat.le_of_ble_eq_true rfl)) dX11_wagon_87 ⟨(Nat.le_of_ble_eq_true rfl), (Nat.le_of_ble_eq_true rfl)⟩) hP hD hS hA [19] [0, 1, 2, 3, 4, 5, 6, 7, 8, 9, 10, 11, 12, 13, 14, 15, 16, 17, 18] rfl rfl (by decide) (by decide) (fun u12 H locs _ hP hD hS => ?_)
            have hP : va_P D vwCl [(xc6 cy xh xq), (xc7 cy xh xq), (xc8 cy xh xq), (xc9 cy xh xq), (xc13 cy xh xq), (xc14 cy xh xq), (xc15 cy xh xq), (xc16 cy xh xq), (xc17 cy xh xq), (xc18 cy xh xq), (xc19 cy xh xq), (xc20 cy xh xq), (xc39 cy xh xq), (xc0 cy xh xq), (xc1 cy xh xq), (xc2 cy xh xq), (xc3 cy xh xq), ((xq 3), .inr (5, [.ref (xq 4), .int 0, .int 0])), ((xq 4), .inl (cy 6, 33, .inr (.inr (.inr (.inr (fun _ => none)))))), (q11, .inr (10, [.int 0, .int 0, .int xa, .int xb, .int xc, .ref (u12 0), .int 0, .int 0, .int 0, .int 0, .int 0, .int 0])), ((u12 0), .inl (cy 0, 4, .inl (fun _ => 0)))] H := hP
            have hD : va_D A [(xc6 cy xh xq), (xc7 cy xh xq), (xc8 cy xh xq), (xc9 cy xh xq), (xc13 cy xh xq), (xc14 cy xh xq), (xc15 cy xh xq), (xc16 cy xh xq), (xc17 cy xh xq), (xc18 cy xh xq), (xc19 cy xh xq), (xc20 cy xh xq), (xc39 cy xh xq), (xc0 cy xh xq), (xc1 cy xh xq), (xc2 cy xh xq), (xc3 cy xh xq), ((xq 3), .inr (5, [.ref (xq 4), .int 0, .int 0])), ((xq 4), .inl (cy 6, 33, .inr (.inr (.inr (.inr (fun _ => none)))))), (q11, .inr (10, [.int 0, .int 0, .int xa, .int xb, .int xc, .ref (u12 0), .int 0, .int 0, .int 0, .int 0, .int 0, .int 0])), ((u12 0), .inl (cy 0, 4, .inl (fun _ => 0)))] := hD
            refine lv_astore (lv' := [(7, .ref q11), (6, .ref (xq 3)), (0, .ref xh), (1, .int 0), (2, .int 0), (3, .int xa), (4, .int xb), (5, .int xc)]) hx hb dX11_wagon_90 hl (by decide) rfl (fun ls hl => ?_)
            refine lv_aload hx hb dX11_wagon_92 (lv_at hl 1 rfl) ?_
            refine lv_aload hx hb dX11_wagon_94 (lv_at hl 0 rfl) ?_
            refine cl_v (wr := [(xc6 cy xh xq), (xc7 cy xh xq), (xc8 cy xh xq), (xc9 cy xh xq), (xc13 cy xh xq), (xc14 cy xh xq), (xc15 cy xh xq), (xc16 cy xh xq), (xc17 cy xh xq), (xc18 cy xh xq), (xc19 cy xh xq), (xc20 cy xh xq), (xc39 cy xh xq), (xc0 cy xh xq), (xc1 cy xh xq), (xc2 cy xh xq), (xc3 cy xh xq), ((u12 0), .inl (cy 0, 4, .inl (fun _ => 0)))]) (va_runV (As := [.ref q11]) (rest := []) ⟨hx, hb, hml, hown, hts⟩ (c_Row_add l D cy (xq 3) (xq 4) q11 (u12 0) 0 0 xa xb xc _) (cwV 1 hts gX11_wagon_X5_add rfl rfl rfl (by decide +kernel) ⟨(Nat.le_of_ble_eq_true rfl), (Nat.le_of_ble_eq_true rfl)⟩) (pre_V hKX hP hD (ci := 5) (q0 := 17) rfl rfl [17, 18, 19] rfl (by decide) rfl) rfl rfl hl.1 rfl (lv_room (Nat.le_of_ble_eq_true rfl)) dX11_wagon_96 ⟨(Nat.le_of_ble_eq_true rfl), (Nat.le_of_ble_eq_true rfl)⟩) hP hD hS hA [17, 18, 19] [0, 1, 2, 3, 4, 5, 6, 7, 8, 9, 10, 11, 12, 13, 14, 15, 16, 20] rfl rfl (by decide) (by decide) (fun u13 H locs _ hP hD hS => ?_)
            have hP : va_P D vwCl [(xc6 cy xh xq), (xc7 cy xh xq), (xc8 cy xh xq), (xc9 cy xh xq), (xc13 cy xh xq), (xc14 cy xh xq), (xc15 cy xh xq), (xc16 cy xh xq), (xc17 cy xh xq), (xc18 cy xh xq), (xc19 cy xh xq), (xc20 cy xh xq), (xc39 cy xh xq), (xc0 cy xh xq), (xc1 cy xh xq), (xc2 cy xh xq), (xc3 cy xh xq), ((u12 0), .inl (cy 0, 4, .inl (fun _ => 0))), (q11, .inr (10, [.int 0, .int 0, .int xa, .int xb, .int xc, .ref (u12 0), .int 0, .int 0, .int 0, .int 0, .int 0, .int 0]))] H := hP
            have hD : va_D A [(xc6 cy xh xq), (xc7 cy xh xq), (xc8 cy xh xq), (xc9 cy xh xq), (xc13 cy xh xq), (xc14 cy xh xq), (xc15 cy xh xq), (xc16 cy xh xq), (xc17 cy xh xq), (xc18 cy xh xq), (xc19 cy xh xq), (xc20 cy xh xq), (xc39 cy xh xq), (xc0 cy xh xq), (xc1 cy xh xq), (xc2 cy xh xq), (xc3 cy xh xq), ((u12 0), .inl (cy 0, 4, .inl (fun _ => 0))), (q11, .inr (10, [.int 0, .int 0, .int xa, .int xb, .int xc, .ref (u12 0), .int 0, .int 0, .int 0, .int 0, .int 0, .int 0]))] := hD
            refine lv_aload hx hb dX11_wagon_99 (lv_at hl 0 rfl) ?_
            refine lv_iload_n hx hb dX11_wagon_101 rfl (lv_at hl 3 rfl) ?_
            refine lv_iload_n hx hb dX11_wagon_102 rfl (lv_at hl 4 rfl) ?_
            refine cl_v (wr := [(xc6 cy xh xq), (xc7 cy xh xq), (xc8 cy xh xq), (xc9 cy xh xq), (xc13 cy xh xq), (xc14 cy xh xq), (xc15 cy xh xq), (xc16 cy xh xq), (xc17 cy xh xq), (xc18 cy xh xq), (xc19 cy xh xq), (xc20 cy xh xq), (xc39 cy xh xq), (xc0 cy xh xq), (xc1 cy xh xq), (xc2 cy xh xq), (xc3 cy xh xq), ((u12 0), .inl (cy 0, 4, .inl (fun _ => 0)))]) (va_runV (As := [.int 0, .int 0]) (rest := []) ⟨hx, hb, hml, hown, hts⟩ (c_standAt l D cy q11 (u12 0) 0 0 xa xb xc 0 0 _) (cwV 2 hts gX11_wagon_X10_standAt rfl rfl rfl (by decide +kernel) ⟨(Nat.le_of_ble_eq_true rfl), (Nat.le_of_ble_eq_true rfl)⟩) (pre_V hKX hP hD (ci := 10) (q0 := 18) rfl rfl [18] rfl (by decide) rfl) rfl rfl hl.1 rfl (lv_room (Nat.le_of_ble_eq_true rfl)) dX11_wagon_103 ⟨(Nat.le_of_ble_eq_true rfl), (Nat.le_of_ble_eq_true rfl)⟩) hP hD hS hA [18] [0, 1, 2, 3, 4, 5, 6, 7, 8, 9, 10, 11, 12, 13, 14, 15, 16, 17] rfl rfl (by decide) (by decide) (fun u14 H locs _ hP hD hS => ?_)
            have hP : va_P D vwCl [(xc6 cy xh xq), (xc7 cy xh xq), (xc8 cy xh xq), (xc9 cy xh xq), (xc13 cy xh xq), (xc14 cy xh xq), (xc15 cy xh xq), (xc16 cy xh xq), (xc17 cy xh xq), (xc18 cy xh xq), (xc19 cy xh xq), (xc20 cy xh xq), (xc39 cy xh xq), (xc0 cy xh xq), (xc1 cy xh xq), (xc2 cy xh xq), (xc3 cy xh xq), ((u12 0), .inl (cy 0, 4, .inl (fun _ => 0))), (q11, .inr (10, [.int 0, .int 0, .int xa, .int xb, .int xc, .ref (u12 0), .int 0, .int 0, .int 0, .int 0, .int 0, .int 0]))] H := hP
            have hD : va_D A [(xc6 cy xh xq), (xc7 cy xh xq), (xc8 cy xh xq), (xc9 cy xh xq), (xc13 cy xh xq), (xc14 cy xh xq), (xc15 cy xh xq), (xc16 cy xh xq), (xc17 cy xh xq), (xc18 cy xh xq), (xc19 cy xh xq), (xc20 cy xh xq), (xc39 cy xh xq), (xc0 cy xh xq), (xc1 cy xh xq), (xc2 cy xh xq), (xc3 cy xh xq), ((u12 0), .inl (cy 0, 4, .inl (fun _ => 0))), (q11, .inr (10, [.int 0, .int 0, .int xa, .int xb, .int xc, .ref (u12 0), .int 0, .int 0, .int 0, .int 0, .int 0, .int 0]))] := hD
            refine lv_aload_n hx hb dX11_wagon_106 rfl (lv_at hl 2 rfl) ?_
            refine va_get (D := D) (ci := 11) (v := .ref (xq 38)) (C := RX11) (T := TX11) (N := 18) hx hb hts iw_X11_wagon_X11 hown hKX.1 hP 13 rfl rfl 2 (by decide) (hts (.fieldLink RX11 25 "TrainFerry" "wagons" "[LTrainFerry$Wagon;") (by decide +kernel)) (fun _ h9 => h9) rfl dX11_wagon_107 ?_
            refine lv_aload_n hx hb dX11_wagon_110 rfl (lv_at hl 2 rfl) ?_
            refine va_get (D := D) (ci := 11) (v := .int 0) (C := RX11) (T := TX11) (N := 18) hx hb hts iw_X11_wagon_X11 hown hKX.1 hP 13 rfl rfl 9 (by decide) (hts (.fieldLink RX11 63 "TrainFerry" "wagonsCome" "I") (by decide +kernel)) (fun _ h9 => h9) rfl dX11_wagon_111 ?_
            refine lv_aload hx hb dX11_wagon_114 (lv_at hl 0 rfl) ?_
            refine va_astq hx hb hKX.1 hP hD hS 12 6 18 10 rfl rfl rfl rfl (vind (by decide)) dX11_wagon_116 (fun H locs hP hD hS => ?_)
            have hP : va_P D vwCl [(xc6 cy xh xq), (xc7 cy xh xq), (xc8 cy xh xq), (xc9 cy xh xq), (xc13 cy xh xq), (xc14 cy xh xq), (xc15 cy xh xq), (xc16 cy xh xq), (xc17 cy xh xq), (xc18 cy xh xq), (xc19 cy xh xq), (xc20 cy xh xq), ((xq 38), .inl (cy 6, 100, .inr (.inr (.inr (.inr (va_up (fun _ => none) 0 (some q11))))))), (xc0 cy xh xq), (xc1 cy xh xq), (xc2 cy xh xq), (xc3 cy xh xq), ((u12 0), .inl (cy 0, 4, .inl (fun _ => 0))), (q11, .inr (10, [.int 0, .int 0, .int xa, .int xb, .int xc, .ref (u12 0), .int 0, .int 0, .int 0, .int 0, .int 0, .int 0]))] H := hP
            have hD : va_D A [(xc6 cy xh xq), (xc7 cy xh xq), (xc8 cy xh xq), (xc9 cy xh xq), (xc13 cy xh xq), (xc14 cy xh xq), (xc15 cy xh xq), (xc16 cy xh xq), (xc17 cy xh xq), (xc18 cy xh xq), (xc19 cy xh xq), (xc20 cy xh xq), ((xq 38), .inl (cy 6, 100, .inr (.inr (.inr (.inr (va_up (fun _ => none) 0 (some q11))))))), (xc0 cy xh xq), (xc1 cy xh xq), (xc2 cy xh xq), (xc3 cy xh xq), ((u12 0), .inl (cy 0, 4, .inl (fun _ => 0))), (q11, .inr (10, [.int 0, .int 0, .int xa, .int xb, .int xc, .ref (u12 0), .int 0, .int 0, .int 0, .int 0, .int 0, .int 0]))] := hD
            refine lv_aload_n hx hb dX11_wagon_117 rfl (lv_at hl 2 rfl) ?_
            refine lv_dup hx hb dX11_wagon_118 rfl ?_
            refine va_get (D := D) (ci := 11) (v := .int 0) (C := RX11) (T := TX11) (N := 18) hx hb hts iw_X11_wagon_X11 hown hKX.1 hP 13 rfl rfl 9 (by decide) (hts (.fieldLink RX11 63 "TrainFerry" "wagonsCome" "I") (by decide +kernel)) (fun _ h9 => h9) rfl dX11_wagon_119 ?_
            refine lv_iconst (v := 1) hx hb dX11_wagon_122 (by decide) ?_
            refine lv_iadd hx hb dX11_wagon_123 ?_
            refine lv_cst 1 (by decide) ?_
            refine va_put (D := D) (ci := 11) (v := .int 1) (ty := .int) (C := RX11) (T := TX11) (N := 18) hx hb hts iw_X11_wagon_X11 tyX11 tyX11_ok nmX11 hown hKX.1 hP hD hS 13 rfl rfl 9 (by decide) (hts (.fieldLink RX11 63 "TrainFerry" "wagonsCome" "I") (by decide +kernel)) (fun _ h9 => h9) rfl (by decide +kernel) rfl rfl (Nat.le_of_ble_eq_true rfl) dX11_wagon_124 (fun H locs hP hD hS => ?_)
            have hP : va_P D vwCl [(xc6 cy xh xq), (xc7 cy xh xq), (xc8 cy xh xq), (xc9 cy xh xq), (xc13 cy xh xq), (xc14 cy xh xq), (xc15 cy xh xq), (xc16 cy xh xq), (xc17 cy xh xq), (xc18 cy xh xq), (xc19 cy xh xq), (xc20 cy xh xq), ((xq 38), .inl (cy 6, 100, .inr (.inr (.inr (.inr (va_up (fun _ => none) 0 (some q11))))))), (xh, .inr (11, [.ref (xq 0), .ref (xq 23), .ref (xq 38), .ref (xq 39), .ref (xq 42), .ref (xq 43), .null, .null, .int 0, .int 1, .int 0, .int 0, .int 0, .int (-1), .int 0, .int 0, .int 5, .int 100])), (xc1 cy xh xq), (xc2 cy xh xq), (xc3 cy xh xq), ((u12 0), .inl (cy 0, 4, .inl (fun _ => 0))), (q11, .inr (10, [.int 0, .int 0, .int xa, .int xb, .int xc, .ref (u12 0), .int 0, .int 0, .int 0, .int 0, .int 0, .int 0]))] H := hP
            have hD : va_D A [(xc6 cy xh xq), (xc7 cy xh xq), (xc8 cy xh xq), (xc9 cy xh xq), (xc13 cy xh xq), (xc14 cy xh xq), (xc15 cy xh xq), (xc16 cy xh xq), (xc17 cy xh xq), (xc18 cy xh xq), (xc19 cy xh xq), (xc20 cy xh xq), ((xq 38), .inl (cy 6, 100, .inr (.inr (.inr (.inr (va_up (fun _ => none) 0 (some q11))))))), (xh, .inr (11, [.ref (xq 0), .ref (xq 23), .ref (xq 38), .ref (xq 39), .ref (xq 42), .ref (xq 43), .null, .null, .int 0, .int 1, .int 0, .int 0, .int 0, .int (-1), .int 0, .int 0, .int 5, .int 100])), (xc1 cy xh xq), (xc2 cy xh xq), (xc3 cy xh xq), ((u12 0), .inl (cy 0, 4, .inl (fun _ => 0))), (q11, .inr (10, [.int 0, .int 0, .int xa, .int xb, .int xc, .ref (u12 0), .int 0, .int 0, .int 0, .int 0, .int 0, .int 0]))] := hD
            refine lv_aload hx hb dX11_wagon_127 (lv_at hl 0 rfl) ?_
            refine va_get (D := D) (ci := 10) (v := .int 0) (C := RX10) (T := TX10) (N := 12) hx hb hts iw_X11_wagon_X10 hown hKX.1 hP 18 rfl rfl 0 (by decide) (hts (.fieldLink RX11 131 "TrainFerry$Wagon" "number" "I") (by decide +kernel)) (fun _ h9 => h9) rfl dX11_wagon_129 ?_
            exact en_i hx hb hr hlocks () (by simp [fWagon, wic1, wic2, wic3, wic4, wic5, wic6, c5, c7, c9]) trivial (hP.sub [] rfl) (hD.sub [] (by decide) rfl) hS (Nat.le_of_ble_eq_true rfl) (Nat.le_of_ble_eq_true rfl) dX11_wagon_132
          · refine lv_iconst (v := (-1)) hx hb dX11_wagon_57 (by decide) ?_
            exact en_i hx hb hr hlocks () (by simp [fWagon, wic1, wic2, wic3, wic4, wic5, wic6, c5, c7, c9]) trivial (hP.sub [] rfl) (hD.sub [] (by decide) rfl) hS (Nat.le_of_ble_eq_true rfl) (Nat.le_of_ble_eq_true rfl) dX11_wagon_58
    · refine lv_aload_n hx hb dX11_wagon_0 rfl (lv_at hl 0 rfl) ?_
      refine lv_iload_n hx hb dX11_wagon_1 rfl (lv_at hl 1 rfl) ?_
      refine lv_iload_n hx hb dX11_wagon_2 rfl (lv_at hl 2 rfl) ?_
      refine cl_q (wr := [(xc4 cy xh xq), (xc5 cy xh xq), (xc6 cy xh xq), (xc7 cy xh xq), (xc8 cy xh xq), (xc9 cy xh xq), (xc13 cy xh xq), (xc14 cy xh xq), (xc15 cy xh xq), (xc16 cy xh xq), (xc17 cy xh xq), (xc18 cy xh xq), (xc19 cy xh xq), (xc20 cy xh xq), (xc39 cy xh xq)]) (va_runV (As := [.int 0, .int 1]) (rest := []) ⟨hx, hb, hml, hown, hts⟩ (c_yardRow_01 l D cy xh xq _) (cwV 2 hts gX11_wagon_X11_yardRow rfl rfl rfl (by decide +kernel) ⟨(Nat.le_of_ble_eq_true rfl), (Nat.le_of_ble_eq_true rfl)⟩) (pre_V hKX hP hD (ci := 11) (q0 := 0) rfl rfl [0, 1, 2, 3] rfl (by decide) rfl) rfl rfl hl.1 rfl (lv_room (Nat.le_of_ble_eq_true rfl)) dX11_wagon_3 ⟨(Nat.le_of_ble_eq_true rfl), (Nat.le_of_ble_eq_true rfl)⟩) hP hD hS hA [0, 1, 2, 3] [4, 5, 6, 7, 8, 9, 10, 11, 12, 13, 14, 15, 16, 17, 18] rfl rfl (by decide) (by decide) (fun u15 H locs _ hP hD hS => ?_)
      have hP : va_P D vwCl [(xc4 cy xh xq), (xc5 cy xh xq), (xc6 cy xh xq), (xc7 cy xh xq), (xc8 cy xh xq), (xc9 cy xh xq), (xc13 cy xh xq), (xc14 cy xh xq), (xc15 cy xh xq), (xc16 cy xh xq), (xc17 cy xh xq), (xc18 cy xh xq), (xc19 cy xh xq), (xc20 cy xh xq), (xc39 cy xh xq), (xc0 cy xh xq), (xc1 cy xh xq), (xc2 cy xh xq), (xc3 cy xh xq)] H := hP
      have hD : va_D A [(xc4 cy xh xq), (xc5 cy xh xq), (xc6 cy xh xq), (xc7 cy xh xq), (xc8 cy xh xq), (xc9 cy xh xq), (xc13 cy xh xq), (xc14 cy xh xq), (xc15 cy xh xq), (xc16 cy xh xq), (xc17 cy xh xq), (xc18 cy xh xq), (xc19 cy xh xq), (xc20 cy xh xq), (xc39 cy xh xq), (xc0 cy xh xq), (xc1 cy xh xq), (xc2 cy xh xq), (xc3 cy xh xq)] := hD
      refine lv_csv (.ref (xq 5)) rfl ?_
      refine lv_astore (lv' := [(6, .ref (xq 5)), (0, .ref xh), (1, .int 0), (2, .int 1), (3, .int xa), (4, .int xb), (5, .int xc)]) hx hb dX11_wagon_6 hl (by decide) rfl (fun ls hl => ?_)
      refine lv_aload hx hb dX11_wagon_8 (lv_at hl 0 rfl) ?_
      refine lv_ifnull hx hb dX11_wagon_10 ?_
      refine lv_aload_n hx hb dX11_wagon_13 rfl (lv_at hl 1 rfl) ?_
      refine va_get (D := D) (ci := 11) (v := .int 0) (C := RX11) (T := TX11) (N := 18) hx hb hts iw_X11_wagon_X11 hown hKX.1 hP 15 rfl rfl 9 (by decide) (hts (.fieldLink RX11 63 "TrainFerry" "wagonsCome" "I") (by decide +kernel)) (fun _ h9 => h9) rfl dX11_wagon_14 ?_
      refine lv_bipush (v := 100) hx hb dX11_wagon_17 (by decide) ?_
      refine lv_icmp_lt (tgt := 24) hx hb dX11_wagon_19 (by decide) (fun _ => ?_) (fun c9 => absurd (by decide) c9)
      refine lv_iload_n hx hb dX11_wagon_24 rfl (lv_at hl 4 rfl) ?_
      refine lv_bipush (v := 6) hx hb dX11_wagon_25 (by decide) ?_
      refine lv_bipush (v := 26) hx hb dX11_wagon_27 (by decide) ?_
      refine cl_i (wr := [(xc4 cy xh xq), (xc5 cy xh xq), (xc6 cy xh xq), (xc7 cy xh xq), (xc8 cy xh xq), (xc9 cy xh xq), (xc13 cy xh xq), (xc14 cy xh xq), (xc15 cy xh xq), (xc16 cy xh xq), (xc17 cy xh xq), (xc18 cy xh xq), (xc19 cy xh xq), (xc20 cy xh xq), (xc39 cy xh xq), (xc0 cy xh xq), (xc1 cy xh xq), (xc2 cy xh xq), (xc3 cy xh xq)]) (va_runS (As := [.int xa, .int 6, .int 26]) (rest := []) ⟨hx, hb, hml, hown, hts⟩ (c_isWithin l D cy xa 6 26 _) (va_cwS 3 hts gX11_wagon_X11_isWithin rfl rfl rfl (by decide +kernel) ⟨(Nat.le_of_ble_eq_true rfl), (Nat.le_of_ble_eq_true rfl)⟩) (pre_S hKX hP hD [] rfl (by decide) rfl) rfl rfl hl.1 rfl (lv_room (Nat.le_of_ble_eq_true rfl)) dX11_wagon_29 ⟨(Nat.le_of_ble_eq_true rfl), (Nat.le_of_ble_eq_true rfl)⟩) hP hD hS hA [] [0, 1, 2, 3, 4, 5, 6, 7, 8, 9, 10, 11, 12, 13, 14, 15, 16, 17, 18] rfl rfl (by decide) (by decide) (fun u16 H locs _ hP hD hS => ?_)
      have hP : va_P D vwCl [(xc4 cy xh xq), (xc5 cy xh xq), (xc6 cy xh xq), (xc7 cy xh xq), (xc8 cy xh xq), (xc9 cy xh xq), (xc13 cy xh xq), (xc14 cy xh xq), (xc15 cy xh xq), (xc16 cy xh xq), (xc17 cy xh xq), (xc18 cy xh xq), (xc19 cy xh xq), (xc20 cy xh xq), (xc39 cy xh xq), (xc0 cy xh xq), (xc1 cy xh xq), (xc2 cy xh xq), (xc3 cy xh xq)] H := hP
      have hD : va_D A [(xc4 cy xh xq), (xc5 cy xh xq), (xc6 cy xh xq), (xc7 cy xh xq), (xc8 cy xh xq), (xc9 cy xh xq), (xc13 cy xh xq), (xc14 cy xh xq), (xc15 cy xh xq), (xc16 cy xh xq), (xc17 cy xh xq), (xc18 cy xh xq), (xc19 cy xh xq), (xc20 cy xh xq), (xc39 cy xh xq), (xc0 cy xh xq), (xc1 cy xh xq), (xc2 cy xh xq), (xc3 cy xh xq)] := hD
      refine lv_if_eq (tgt := 57) hx hb dX11_wagon_32 (by decide) (fun c17 => ?_) (fun c17 => ?_)
      · refine lv_iconst (v := (-1)) hx hb dX11_wagon_57 (by decide) ?_
        exact en_i hx hb hr hlocks () (by simp [fWagon, wic1, wic2, wic3, wic4, wic5, wic6, c17]) trivial (hP.sub [] rfl) (hD.sub [] (by decide) rfl) hS (Nat.le_of_ble_eq_true rfl) (Nat.le_of_ble_eq_true rfl) dX11_wagon_58
      · refine lv_iload hx hb dX11_wagon_35 (lv_at hl 5 rfl) ?_
        refine lv_bipush (v := 10) hx hb dX11_wagon_37 (by decide) ?_
        refine lv_bipush (v := 90) hx hb dX11_wagon_39 (by decide) ?_
        refine cl_i (wr := [(xc4 cy xh xq), (xc5 cy xh xq), (xc6 cy xh xq), (xc7 cy xh xq), (xc8 cy xh xq), (xc9 cy xh xq), (xc13 cy xh xq), (xc14 cy xh xq), (xc15 cy xh xq), (xc16 cy xh xq), (xc17 cy xh xq), (xc18 cy xh xq), (xc19 cy xh xq), (xc20 cy xh xq), (xc39 cy xh xq), (xc0 cy xh xq), (xc1 cy xh xq), (xc2 cy xh xq), (xc3 cy xh xq)]) (va_runS (As := [.int xb, .int 10, .int 90]) (rest := []) ⟨hx, hb, hml, hown, hts⟩ (c_isWithin l D cy xb 10 90 _) (va_cwS 3 hts gX11_wagon_X11_isWithin rfl rfl rfl (by decide +kernel) ⟨(Nat.le_of_ble_eq_true rfl), (Nat.le_of_ble_eq_true rfl)⟩) (pre_S hKX hP hD [] rfl (by decide) rfl) rfl rfl hl.1 rfl (lv_room (Nat.le_of_ble_eq_true rfl)) dX11_wagon_41 ⟨(Nat.le_of_ble_eq_true rfl), (Nat.le_of_ble_eq_true rfl)⟩) hP hD hS hA [] [0, 1, 2, 3, 4, 5, 6, 7, 8, 9, 10, 11, 12, 13, 14, 15, 16, 17, 18] rfl rfl (by decide) (by decide) (fun u18 H locs _ hP hD hS => ?_)
        have hP : va_P D vwCl [(xc4 cy xh xq), (xc5 cy xh xq), (xc6 cy xh xq), (xc7 cy xh xq), (xc8 cy xh xq), (xc9 cy xh xq), (xc13 cy xh xq), (xc14 cy xh xq), (xc15 cy xh xq), (xc16 cy xh xq), (xc17 cy xh xq), (xc18 cy xh xq), (xc19 cy xh xq), (xc20 cy xh xq), (xc39 cy xh xq), (xc0 cy xh xq), (xc1 cy xh xq), (xc2 cy xh xq), (xc3 cy xh xq)] H := hP
        have hD : va_D A [(xc4 cy xh xq), (xc5 cy xh xq), (xc6 cy xh xq), (xc7 cy xh xq), (xc8 cy xh xq), (xc9 cy xh xq), (xc13 cy xh xq), (xc14 cy xh xq), (xc15 cy xh xq), (xc16 cy xh xq), (xc17 cy xh xq), (xc18 cy xh xq), (xc19 cy xh xq), (xc20 cy xh xq), (xc39 cy xh xq), (xc0 cy xh xq), (xc1 cy xh xq), (xc2 cy xh xq), (xc3 cy xh xq)] := hD
        refine lv_if_eq (tgt := 57) hx hb dX11_wagon_44 (by decide) (fun c19 => ?_) (fun c19 => ?_)
        · refine lv_iconst (v := (-1)) hx hb dX11_wagon_57 (by decide) ?_
          exact en_i hx hb hr hlocks () (by simp [fWagon, wic1, wic2, wic3, wic4, wic5, wic6, c17, c19]) trivial (hP.sub [] rfl) (hD.sub [] (by decide) rfl) hS (Nat.le_of_ble_eq_true rfl) (Nat.le_of_ble_eq_true rfl) dX11_wagon_58
        · refine lv_iload hx hb dX11_wagon_47 (lv_at hl 6 rfl) ?_
          refine lv_iconst (v := 0) hx hb dX11_wagon_49 (by decide) ?_
          refine lv_iconst (v := 3) hx hb dX11_wagon_50 (by decide) ?_
          refine cl_i (wr := [(xc4 cy xh xq), (xc5 cy xh xq), (xc6 cy xh xq), (xc7 cy xh xq), (xc8 cy xh xq), (xc9 cy xh xq), (xc13 cy xh xq), (xc14 cy xh xq), (xc15 cy xh xq), (xc16 cy xh xq), (xc17 cy xh xq), (xc18 cy xh xq), (xc19 cy xh xq), (xc20 cy xh xq), (xc39 cy xh xq), (xc0 cy xh xq), (xc1 cy xh xq), (xc2 cy xh xq), (xc3 cy xh xq)]) (va_runS (As := [.int xc, .int 0, .int 3]) (rest := []) ⟨hx, hb, hml, hown, hts⟩ (c_isWithin l D cy xc 0 3 _) (va_cwS 3 hts gX11_wagon_X11_isWithin rfl rfl rfl (by decide +kernel) ⟨(Nat.le_of_ble_eq_true rfl), (Nat.le_of_ble_eq_true rfl)⟩) (pre_S hKX hP hD [] rfl (by decide) rfl) rfl rfl hl.1 rfl (lv_room (Nat.le_of_ble_eq_true rfl)) dX11_wagon_51 ⟨(Nat.le_of_ble_eq_true rfl), (Nat.le_of_ble_eq_true rfl)⟩) hP hD hS hA [] [0, 1, 2, 3, 4, 5, 6, 7, 8, 9, 10, 11, 12, 13, 14, 15, 16, 17, 18] rfl rfl (by decide) (by decide) (fun u20 H locs _ hP hD hS => ?_)
          have hP : va_P D vwCl [(xc4 cy xh xq), (xc5 cy xh xq), (xc6 cy xh xq), (xc7 cy xh xq), (xc8 cy xh xq), (xc9 cy xh xq), (xc13 cy xh xq), (xc14 cy xh xq), (xc15 cy xh xq), (xc16 cy xh xq), (xc17 cy xh xq), (xc18 cy xh xq), (xc19 cy xh xq), (xc20 cy xh xq), (xc39 cy xh xq), (xc0 cy xh xq), (xc1 cy xh xq), (xc2 cy xh xq), (xc3 cy xh xq)] H := hP
          have hD : va_D A [(xc4 cy xh xq), (xc5 cy xh xq), (xc6 cy xh xq), (xc7 cy xh xq), (xc8 cy xh xq), (xc9 cy xh xq), (xc13 cy xh xq), (xc14 cy xh xq), (xc15 cy xh xq), (xc16 cy xh xq), (xc17 cy xh xq), (xc18 cy xh xq), (xc19 cy xh xq), (xc20 cy xh xq), (xc39 cy xh xq), (xc0 cy xh xq), (xc1 cy xh xq), (xc2 cy xh xq), (xc3 cy xh xq)] := hD
          refine lv_if_ne (tgt := 59) hx hb dX11_wagon_54 (by decide) (fun c21 => ?_) (fun c21 => ?_)
          · refine lv_aload hx hb dX11_wagon_59 (lv_at hl 0 rfl) ?_
            refine lv_iload_n hx hb dX11_wagon_61 rfl (lv_at hl 4 rfl) ?_
            refine lv_sipush (v := 200) hx hb dX11_wagon_62 (by decide) ?_
            refine cl_i (wr := [(xc4 cy xh xq), (xc5 cy xh xq), (xc8 cy xh xq), (xc9 cy xh xq), (xc13 cy xh xq), (xc14 cy xh xq), (xc15 cy xh xq), (xc16 cy xh xq), (xc17 cy xh xq), (xc18 cy xh xq), (xc19 cy xh xq), (xc20 cy xh xq), (xc39 cy xh xq), (xc0 cy xh xq), (xc1 cy xh xq), (xc2 cy xh xq), (xc3 cy xh xq)]) (va_runV (As := [.int xa, .int 200]) (rest := []) ⟨hx, hb, hml, hown, hts⟩ (c_hasRoom l D cy (xq 5) (xq 6) xa c17 _) (cwV 2 hts gX11_wagon_X5_hasRoom rfl rfl rfl (by decide +kernel) ⟨(Nat.le_of_ble_eq_true rfl), (Nat.le_of_ble_eq_true rfl)⟩) (pre_V hKX hP hD (ci := 5) (q0 := 2) rfl rfl [2, 3] rfl (by decide) rfl) rfl rfl hl.1 rfl (lv_room (Nat.le_of_ble_eq_true rfl)) dX11_wagon_65 ⟨(Nat.le_of_ble_eq_true rfl), (Nat.le_of_ble_eq_true rfl)⟩) hP hD hS hA [2, 3] [0, 1, 4, 5, 6, 7, 8, 9, 10, 11, 12, 13, 14, 15, 16, 17, 18] rfl rfl (by decide) (by decide) (fun u22 H locs _ hP hD hS => ?_)
            have hP : va_P D vwCl [(xc4 cy xh xq), (xc5 cy xh xq), (xc8 cy xh xq), (xc9 cy xh xq), (xc13 cy xh xq), (xc14 cy xh xq), (xc15 cy xh xq), (xc16 cy xh xq), (xc17 cy xh xq), (xc18 cy xh xq), (xc19 cy xh xq), (xc20 cy xh xq), (xc39 cy xh xq), (xc0 cy xh xq), (xc1 cy xh xq), (xc2 cy xh xq), (xc3 cy xh xq), ((xq 5), .inr (5, [.ref (xq 6), .int 0, .int 0])), ((xq 6), .inl (cy 6, 33, .inr (.inr (.inr (.inr (fun _ => none))))))] H := hP
            have hD : va_D A [(xc4 cy xh xq), (xc5 cy xh xq), (xc8 cy xh xq), (xc9 cy xh xq), (xc13 cy xh xq), (xc14 cy xh xq), (xc15 cy xh xq), (xc16 cy xh xq), (xc17 cy xh xq), (xc18 cy xh xq), (xc19 cy xh xq), (xc20 cy xh xq), (xc39 cy xh xq), (xc0 cy xh xq), (xc1 cy xh xq), (xc2 cy xh xq), (xc3 cy xh xq), ((xq 5), .inr (5, [.ref (xq 6), .int 0, .int 0])), ((xq 6), .inl (cy 6, 33, .inr (.inr (.inr (.inr (fun _ => none))))))] := hD
            refine lv_if_ne (tgt := 73) hx hb dX11_wagon_68 (by decide) (fun _ => ?_) (fun c9 => absurd c9 (by decide))
            refine va_new (ci := 10) (fs := [.int 0, .int 0, .int 0, .int 0, .int 0, .null, .int 0, .int 0, .int 0, .int 0, .int 0, .int 0]) (C := RX10) (T := TX10) (N := 12) hx hb hts iw_X11_wagon_X10 tyX10 tyX10_ok hown (hts (.classLink RX11 23 RX10) (by decide +kernel)) (hts (.instantiable RX10 12) (by decide +kernel)) (hts (.initialized RX10) (by decide +kernel)) hKX.1 hP hD hS hA rfl (fun j hj => by rcases (show j = 0 ∨ j = 1 ∨ j = 2 ∨ j = 3 ∨ j = 4 ∨ j = 5 ∨ j = 6 ∨ j = 7 ∨ j = 8 ∨ j = 9 ∨ j = 10 ∨ j = 11 by omega) with rfl | rfl | rfl | rfl | rfl | rfl | rfl | rfl | rfl | rfl | rfl | rfl <;> rfl) (Nat.le_of_ble_eq_true rfl) (Nat.le_of_ble_eq_true rfl) dX11_wagon_73 (fun q23 H hP hD hS => ?_)
            have hP : va_P D vwCl [(xc4 cy xh xq), (xc5 cy xh xq), (xc8 cy xh xq), (xc9 cy xh xq), (xc13 cy xh xq), (xc14 cy xh xq), (xc15 cy xh xq), (xc16 cy xh xq), (xc17 cy xh xq), (xc18 cy xh xq), (xc19 cy xh xq), (xc20 cy xh xq), (xc39 cy xh xq), (xc0 cy xh xq), (xc1 cy xh xq), (xc2 cy xh xq), (xc3 cy xh xq), ((xq 5), .inr (5, [.ref (xq 6), .int 0, .int 0])), ((xq 6), .inl (cy 6, 33, .inr (.inr (.inr (.inr (fun _ => none)))))), (q23, .inr (10, [.int 0, .int 0, .int 0, .int 0, .int 0, .null, .int 0, .int 0, .int 0, .int 0, .int 0, .int 0]))] H := hP
            have hD : va_D A [(xc4 cy xh xq), (xc5 cy xh xq), (xc8 cy xh xq), (xc9 cy xh xq), (xc13 cy xh xq), (xc14 cy xh xq), (xc15 cy xh xq), (xc16 cy xh xq), (xc17 cy xh xq), (xc18 cy xh xq), (xc19 cy xh xq), (xc20 cy xh xq), (xc39 cy xh xq), (xc0 cy xh xq), (xc1 cy xh xq), (xc2 cy xh xq), (xc3 cy xh xq), ((xq 5), .inr (5, [.ref (xq 6), .int 0, .int 0])), ((xq 6), .inl (cy 6, 33, .inr (.inr (.inr (.inr (fun _ => none)))))), (q23, .inr (10, [.int 0, .int 0, .int 0, .int 0, .int 0, .null, .int 0, .int 0, .int 0, .int 0, .int 0, .int 0]))] := hD
            refine lv_dup hx hb dX11_wagon_76 rfl ?_
            refine lv_aload_n hx hb dX11_wagon_77 rfl (lv_at hl 1 rfl) ?_
            refine va_get (D := D) (ci := 11) (v := .int 0) (C := RX11) (T := TX11) (N := 18) hx hb hts iw_X11_wagon_X11 hown hKX.1 hP 13 rfl rfl 9 (by decide) (hts (.fieldLink RX11 63 "TrainFerry" "wagonsCome" "I") (by decide +kernel)) (fun _ h9 => h9) rfl dX11_wagon_78 ?_
            refine lv_iload_n hx hb dX11_wagon_81 rfl (lv_at hl 2 rfl) ?_
            refine lv_iload_n hx hb dX11_wagon_82 rfl (lv_at hl 4 rfl) ?_
            refine lv_iload hx hb dX11_wagon_83 (lv_at hl 5 rfl) ?_
            refine lv_iload hx hb dX11_wagon_85 (lv_at hl 6 rfl) ?_
            refine cl_v (wr := [(xc4 cy xh xq), (xc5 cy xh xq), (xc8 cy xh xq), (xc9 cy xh xq), (xc13 cy xh xq), (xc14 cy xh xq), (xc15 cy xh xq), (xc16 cy xh xq), (xc17 cy xh xq), (xc18 cy xh xq), (xc19 cy xh xq), (xc20 cy xh xq), (xc39 cy xh xq), (xc0 cy xh xq), (xc1 cy xh xq), (xc2 cy xh xq), (xc3 cy xh xq), ((xq 5), .inr (5, [.ref (xq 6), .int 0, .int 0])), ((xq 6), .inl (cy 6, 33, .inr (.inr (.inr (.inr (fun _ => none))))))]) (va_runI (As := [.int 0, .int 0, .int xa, .int xb, .int xc]) (rest := [.ref q23]) ⟨hx, hb, hml, hown, hts⟩ (c_Wagon_init l D cy q23 0 0 xa xb xc _) (cwI 5 hts gX11_wagon_X10_init rfl rfl rfl (hts (.initialized RX10) (by decide +kernel)) (hts (.methodLink RX11 120 yX10_init) (by decide +kernel)) (hts (.instanceMethod yX10_init) (by decide +kernel)) rfl (by decide +kernel) ⟨(Nat.le_of_ble_eq_true rfl), (Nat.le_of_ble_eq_true rfl)⟩) (pre_S hKX hP hD [19] rfl (by decide) rfl) rfl rfl hl.1 rfl (lv_room (Nat.le_of_ble_eq_true rfl)) dX11_wagon_87 ⟨(Nat.le_of_ble_eq_true rfl), (Nat.le_of_ble_eq_true rfl)⟩) hP hD hS hA [19] [0, 1, 2, 3, 4, 5, 6, 7, 8, 9, 10, 11, 12, 13, 14, 15, 16, 17, 18] rfl rfl (by decide) (by decide) (fun u24 H locs _ hP hD hS => ?_)
            have hP : va_P D vwCl [(xc4 cy xh xq), (xc5 cy xh xq), (xc8 cy xh xq), (xc9 cy xh xq), (xc13 cy xh xq), (xc14 cy xh xq), (xc15 cy xh xq), (xc16 cy xh xq), (xc17 cy xh xq), (xc18 cy xh xq), (xc19 cy xh xq), (xc20 cy xh xq), (xc39 cy xh xq), (xc0 cy xh xq), (xc1 cy xh xq), (xc2 cy xh xq), (xc3 cy xh xq), ((xq 5), .inr (5, [.ref (xq 6), .int 0, .int 0])), ((xq 6), .inl (cy 6, 33, .inr (.inr (.inr (.inr (fun _ => none)))))), (q23, .inr (10, [.int 0, .int 0, .int xa, .int xb, .int xc, .ref (u24 0), .int 0, .int 0, .int 0, .int 0, .int 0, .int 0])), ((u24 0), .inl (cy 0, 4, .inl (fun _ => 0)))] H := hP
            have hD : va_D A [(xc4 cy xh xq), (xc5 cy xh xq), (xc8 cy xh xq), (xc9 cy xh xq), (xc13 cy xh xq), (xc14 cy xh xq), (xc15 cy xh xq), (xc16 cy xh xq), (xc17 cy xh xq), (xc18 cy xh xq), (xc19 cy xh xq), (xc20 cy xh xq), (xc39 cy xh xq), (xc0 cy xh xq), (xc1 cy xh xq), (xc2 cy xh xq), (xc3 cy xh xq), ((xq 5), .inr (5, [.ref (xq 6), .int 0, .int 0])), ((xq 6), .inl (cy 6, 33, .inr (.inr (.inr (.inr (fun _ => none)))))), (q23, .inr (10, [.int 0, .int 0, .int xa, .int xb, .int xc, .ref (u24 0), .int 0, .int 0, .int 0, .int 0, .int 0, .int 0])), ((u24 0), .inl (cy 0, 4, .inl (fun _ => 0)))] := hD
            refine lv_astore (lv' := [(7, .ref q23), (6, .ref (xq 5)), (0, .ref xh), (1, .int 0), (2, .int 1), (3, .int xa), (4, .int xb), (5, .int xc)]) hx hb dX11_wagon_90 hl (by decide) rfl (fun ls hl => ?_)
            refine lv_aload hx hb dX11_wagon_92 (lv_at hl 1 rfl) ?_
            refine lv_aload hx hb dX11_wagon_94 (lv_at hl 0 rfl) ?_
            refine cl_v (wr := [(xc4 cy xh xq), (xc5 cy xh xq), (xc8 cy xh xq), (xc9 cy xh xq), (xc13 cy xh xq), (xc14 cy xh xq), (xc15 cy xh xq), (xc16 cy xh xq), (xc17 cy xh xq), (xc18 cy xh xq), (xc19 cy xh xq), (xc20 cy xh xq), (xc39 cy xh xq), (xc0 cy xh xq), (xc1 cy xh xq), (xc2 cy xh xq), (xc3 cy xh xq), ((u24 0), .inl (cy 0, 4, .inl (fun _ => 0)))]) (va_runV (As := [.ref q23]) (rest := []) ⟨hx, hb, hml, hown, hts⟩ (c_Row_add l D cy (xq 5) (xq 6) q23 (u24 0) 0 0 xa xb xc _) (cwV 1 hts gX11_wagon_X5_add rfl rfl rfl (by decide +kernel) ⟨(Nat.le_of_ble_eq_true rfl), (Nat.le_of_ble_eq_true rfl)⟩) (pre_V hKX hP hD (ci := 5) (q0 := 17) rfl rfl [17, 18, 19] rfl (by decide) rfl) rfl rfl hl.1 rfl (lv_room (Nat.le_of_ble_eq_true rfl)) dX11_wagon_96 ⟨(Nat.le_of_ble_eq_true rfl), (Nat.le_of_ble_eq_true rfl)⟩) hP hD hS hA [17, 18, 19] [0, 1, 2, 3, 4, 5, 6, 7, 8, 9, 10, 11, 12, 13, 14, 15, 16, 20] rfl rfl (by decide) (by decide) (fun u25 H locs _ hP hD hS => ?_)
            have hP : va_P D vwCl [(xc4 cy xh xq), (xc5 cy xh xq), (xc8 cy xh xq), (xc9 cy xh xq), (xc13 cy xh xq), (xc14 cy xh xq), (xc15 cy xh xq), (xc16 cy xh xq), (xc17 cy xh xq), (xc18 cy xh xq), (xc19 cy xh xq), (xc20 cy xh xq), (xc39 cy xh xq), (xc0 cy xh xq), (xc1 cy xh xq), (xc2 cy xh xq), (xc3 cy xh xq), ((u24 0), .inl (cy 0, 4, .inl (fun _ => 0))), (q23, .inr (10, [.int 0, .int 0, .int xa, .int xb, .int xc, .ref (u24 0), .int 0, .int 0, .int 0, .int 0, .int 0, .int 0]))] H := hP
            have hD : va_D A [(xc4 cy xh xq), (xc5 cy xh xq), (xc8 cy xh xq), (xc9 cy xh xq), (xc13 cy xh xq), (xc14 cy xh xq), (xc15 cy xh xq), (xc16 cy xh xq), (xc17 cy xh xq), (xc18 cy xh xq), (xc19 cy xh xq), (xc20 cy xh xq), (xc39 cy xh xq), (xc0 cy xh xq), (xc1 cy xh xq), (xc2 cy xh xq), (xc3 cy xh xq), ((u24 0), .inl (cy 0, 4, .inl (fun _ => 0))), (q23, .inr (10, [.int 0, .int 0, .int xa, .int xb, .int xc, .ref (u24 0), .int 0, .int 0, .int 0, .int 0, .int 0, .int 0]))] := hD
            refine lv_aload hx hb dX11_wagon_99 (lv_at hl 0 rfl) ?_
            refine lv_iload_n hx hb dX11_wagon_101 rfl (lv_at hl 3 rfl) ?_
            refine lv_iload_n hx hb dX11_wagon_102 rfl (lv_at hl 4 rfl) ?_
            refine cl_v (wr := [(xc4 cy xh xq), (xc5 cy xh xq), (xc8 cy xh xq), (xc9 cy xh xq), (xc13 cy xh xq), (xc14 cy xh xq), (xc15 cy xh xq), (xc16 cy xh xq), (xc17 cy xh xq), (xc18 cy xh xq), (xc19 cy xh xq), (xc20 cy xh xq), (xc39 cy xh xq), (xc0 cy xh xq), (xc1 cy xh xq), (xc2 cy xh xq), (xc3 cy xh xq), ((u24 0), .inl (cy 0, 4, .inl (fun _ => 0)))]) (va_runV (As := [.int 0, .int 1]) (rest := []) ⟨hx, hb, hml, hown, hts⟩ (c_standAt l D cy q23 (u24 0) 0 0 xa xb xc 0 1 _) (cwV 2 hts gX11_wagon_X10_standAt rfl rfl rfl (by decide +kernel) ⟨(Nat.le_of_ble_eq_true rfl), (Nat.le_of_ble_eq_true rfl)⟩) (pre_V hKX hP hD (ci := 10) (q0 := 18) rfl rfl [18] rfl (by decide) rfl) rfl rfl hl.1 rfl (lv_room (Nat.le_of_ble_eq_true rfl)) dX11_wagon_103 ⟨(Nat.le_of_ble_eq_true rfl), (Nat.le_of_ble_eq_true rfl)⟩) hP hD hS hA [18] [0, 1, 2, 3, 4, 5, 6, 7, 8, 9, 10, 11, 12, 13, 14, 15, 16, 17] rfl rfl (by decide) (by decide) (fun u26 H locs _ hP hD hS => ?_)
            have hP : va_P D vwCl [(xc4 cy xh xq), (xc5 cy xh xq), (xc8 cy xh xq), (xc9 cy xh xq), (xc13 cy xh xq), (xc14 cy xh xq), (xc15 cy xh xq), (xc16 cy xh xq), (xc17 cy xh xq), (xc18 cy xh xq), (xc19 cy xh xq), (xc20 cy xh xq), (xc39 cy xh xq), (xc0 cy xh xq), (xc1 cy xh xq), (xc2 cy xh xq), (xc3 cy xh xq), ((u24 0), .inl (cy 0, 4, .inl (fun _ => 0))), (q23, .inr (10, [.int 0, .int 0, .int xa, .int xb, .int xc, .ref (u24 0), .int 0, .int 0, .int 0, .int 0, .int 1, .int 0]))] H := hP
            have hD : va_D A [(xc4 cy xh xq), (xc5 cy xh xq), (xc8 cy xh xq), (xc9 cy xh xq), (xc13 cy xh xq), (xc14 cy xh xq), (xc15 cy xh xq), (xc16 cy xh xq), (xc17 cy xh xq), (xc18 cy xh xq), (xc19 cy xh xq), (xc20 cy xh xq), (xc39 cy xh xq), (xc0 cy xh xq), (xc1 cy xh xq), (xc2 cy xh xq), (xc3 cy xh xq), ((u24 0), .inl (cy 0, 4, .inl (fun _ => 0))), (q23, .inr (10, [.int 0, .int 0, .int xa, .int xb, .int xc, .ref (u24 0), .int 0, .int 0, .int 0, .int 0, .int 1, .int 0]))] := hD
            refine lv_aload_n hx hb dX11_wagon_106 rfl (lv_at hl 2 rfl) ?_
            refine va_get (D := D) (ci := 11) (v := .ref (xq 38)) (C := RX11) (T := TX11) (N := 18) hx hb hts iw_X11_wagon_X11 hown hKX.1 hP 13 rfl rfl 2 (by decide) (hts (.fieldLink RX11 25 "TrainFerry" "wagons" "[LTrainFerry$Wagon;") (by decide +kernel)) (fun _ h9 => h9) rfl dX11_wagon_107 ?_
            refine lv_aload_n hx hb dX11_wagon_110 rfl (lv_at hl 2 rfl) ?_
            refine va_get (D := D) (ci := 11) (v := .int 0) (C := RX11) (T := TX11) (N := 18) hx hb hts iw_X11_wagon_X11 hown hKX.1 hP 13 rfl rfl 9 (by decide) (hts (.fieldLink RX11 63 "TrainFerry" "wagonsCome" "I") (by decide +kernel)) (fun _ h9 => h9) rfl dX11_wagon_111 ?_
            refine lv_aload hx hb dX11_wagon_114 (lv_at hl 0 rfl) ?_
            refine va_astq hx hb hKX.1 hP hD hS 12 6 18 10 rfl rfl rfl rfl (vind (by decide)) dX11_wagon_116 (fun H locs hP hD hS => ?_)
            have hP : va_P D vwCl [(xc4 cy xh xq), (xc5 cy xh xq), (xc8 cy xh xq), (xc9 cy xh xq), (xc13 cy xh xq), (xc14 cy xh xq), (xc15 cy xh xq), (xc16 cy xh xq), (xc17 cy xh xq), (xc18 cy xh xq), (xc19 cy xh xq), (xc20 cy xh xq), ((xq 38), .inl (cy 6, 100, .inr (.inr (.inr (.inr (va_up (fun _ => none) 0 (some q23))))))), (xc0 cy xh xq), (xc1 cy xh xq), (xc2 cy xh xq), (xc3 cy xh xq), ((u24 0), .inl (cy 0, 4, .inl (fun _ => 0))), (q23, .inr (10, [.int 0, .int 0, .int xa, .int xb, .int xc, .ref (u24 0), .int 0, .int 0, .int 0, .int 0, .int 1, .int 0]))] H := hP
            have hD : va_D A [(xc4 cy xh xq), (xc5 cy xh xq), (xc8 cy xh xq), (xc9 cy xh xq), (xc13 cy xh xq), (xc14 cy xh xq), (xc15 cy xh xq), (xc16 cy xh xq), (xc17 cy xh xq), (xc18 cy xh xq), (xc19 cy xh xq), (xc20 cy xh xq), ((xq 38), .inl (cy 6, 100, .inr (.inr (.inr (.inr (va_up (fun _ => none) 0 (some q23))))))), (xc0 cy xh xq), (xc1 cy xh xq), (xc2 cy xh xq), (xc3 cy xh xq), ((u24 0), .inl (cy 0, 4, .inl (fun _ => 0))), (q23, .inr (10, [.int 0, .int 0, .int xa, .int xb, .int xc, .ref (u24 0), .int 0, .int 0, .int 0, .int 0, .int 1, .int 0]))] := hD
            refine lv_aload_n hx hb dX11_wagon_117 rfl (lv_at hl 2 rfl) ?_
            refine lv_dup hx hb dX11_wagon_118 rfl ?_
            refine va_get (D := D) (ci := 11) (v := .int 0) (C := RX11) (T := TX11) (N := 18) hx hb hts iw_X11_wagon_X11 hown hKX.1 hP 13 rfl rfl 9 (by decide) (hts (.fieldLink RX11 63 "TrainFerry" "wagonsCome" "I") (by decide +kernel)) (fun _ h9 => h9) rfl dX11_wagon_119 ?_
            refine lv_iconst (v := 1) hx hb dX11_wagon_122 (by decide) ?_
            refine lv_iadd hx hb dX11_wagon_123 ?_
            refine lv_cst 1 (by decide) ?_
            refine va_put (D := D) (ci := 11) (v := .int 1) (ty := .int) (C := RX11) (T := TX11) (N := 18) hx hb hts iw_X11_wagon_X11 tyX11 tyX11_ok nmX11 hown hKX.1 hP hD hS 13 rfl rfl 9 (by decide) (hts (.fieldLink RX11 63 "TrainFerry" "wagonsCome" "I") (by decide +kernel)) (fun _ h9 => h9) rfl (by decide +kernel) rfl rfl (Nat.le_of_ble_eq_true rfl) dX11_wagon_124 (fun H locs hP hD hS => ?_)
            have hP : va_P D vwCl [(xc4 cy xh xq), (xc5 cy xh xq), (xc8 cy xh xq), (xc9 cy xh xq), (xc13 cy xh xq), (xc14 cy xh xq), (xc15 cy xh xq), (xc16 cy xh xq), (xc17 cy xh xq), (xc18 cy xh xq), (xc19 cy xh xq), (xc20 cy xh xq), ((xq 38), .inl (cy 6, 100, .inr (.inr (.inr (.inr (va_up (fun _ => none) 0 (some q23))))))), (xh, .inr (11, [.ref (xq 0), .ref (xq 23), .ref (xq 38), .ref (xq 39), .ref (xq 42), .ref (xq 43), .null, .null, .int 0, .int 1, .int 0, .int 0, .int 0, .int (-1), .int 0, .int 0, .int 5, .int 100])), (xc1 cy xh xq), (xc2 cy xh xq), (xc3 cy xh xq), ((u24 0), .inl (cy 0, 4, .inl (fun _ => 0))), (q23, .inr (10, [.int 0, .int 0, .int xa, .int xb, .int xc, .ref (u24 0), .int 0, .int 0, .int 0, .int 0, .int 1, .int 0]))] H := hP
            have hD : va_D A [(xc4 cy xh xq), (xc5 cy xh xq), (xc8 cy xh xq), (xc9 cy xh xq), (xc13 cy xh xq), (xc14 cy xh xq), (xc15 cy xh xq), (xc16 cy xh xq), (xc17 cy xh xq), (xc18 cy xh xq), (xc19 cy xh xq), (xc20 cy xh xq), ((xq 38), .inl (cy 6, 100, .inr (.inr (.inr (.inr (va_up (fun _ => none) 0 (some q23))))))), (xh, .inr (11, [.ref (xq 0), .ref (xq 23), .ref (xq 38), .ref (xq 39), .ref (xq 42), .ref (xq 43), .null, .null, .int 0, .int 1, .int 0, .int 0, .int 0, .int (-1), .int 0, .int 0, .int 5, .int 100])), (xc1 cy xh xq), (xc2 cy xh xq), (xc3 cy xh xq), ((u24 0), .inl (cy 0, 4, .inl (fun _ => 0))), (q23, .inr (10, [.int 0, .int 0, .int xa, .int xb, .int xc, .ref (u24 0), .int 0, .int 0, .int 0, .int 0, .int 1, .int 0]))] := hD
            refine lv_aload hx hb dX11_wagon_127 (lv_at hl 0 rfl) ?_
            refine va_get (D := D) (ci := 10) (v := .int 0) (C := RX10) (T := TX10) (N := 12) hx hb hts iw_X11_wagon_X10 hown hKX.1 hP 18 rfl rfl 0 (by decide) (hts (.fieldLink RX11 131 "TrainFerry$Wagon" "number" "I") (by decide +kernel)) (fun _ h9 => h9) rfl dX11_wagon_129 ?_
            exact en_i hx hb hr hlocks () (by simp [fWagon, wic1, wic2, wic3, wic4, wic5, wic6, c17, c19, c21]) trivial (hP.sub [] rfl) (hD.sub [] (by decide) rfl) hS (Nat.le_of_ble_eq_true rfl) (Nat.le_of_ble_eq_true rfl) dX11_wagon_132
          · refine lv_iconst (v := (-1)) hx hb dX11_wagon_57 (by decide) ?_
            exact en_i hx hb hr hlocks () (by simp [fWagon, wic1, wic2, wic3, wic4, wic5, wic6, c17, c19, c21]) trivial (hP.sub [] rfl) (hD.sub [] (by decide) rfl) hS (Nat.le_of_ble_eq_true rfl) (Nat.le_of_ble_eq_true rfl) dX11_wagon_58
    · refine lv_aload_n hx hb dX11_wagon_0 rfl (lv_at hl 0 rfl) ?_
      refine lv_iload_n hx hb dX11_wagon_1 rfl (lv_at hl 1 rfl) ?_
      refine lv_iload_n hx hb dX11_wagon_2 rfl (lv_at hl 2 rfl) ?_
      refine cl_q (wr := [(xc4 cy xh xq), (xc5 cy xh xq), (xc6 cy xh xq), (xc7 cy xh xq), (xc8 cy xh xq), (xc9 cy xh xq), (xc13 cy xh xq), (xc14 cy xh xq), (xc15 cy xh xq), (xc16 cy xh xq), (xc17 cy xh xq), (xc18 cy xh xq), (xc19 cy xh xq), (xc20 cy xh xq), (xc39 cy xh xq)]) (va_runV (As := [.int 0, .int 2]) (rest := []) ⟨hx, hb, hml, hown, hts⟩ (c_yardRow_02 l D cy xh xq _) (cwV 2 hts gX11_wagon_X11_yardRow rfl rfl rfl (by decide +kernel) ⟨(Nat.le_of_ble_eq_true rfl), (Nat.le_of_ble_eq_true rfl)⟩) (pre_V hKX hP hD (ci := 11) (q0 := 0) rfl rfl [0, 1, 2, 3] rfl (by decide) rfl) rfl rfl hl.1 rfl (lv_room (Nat.le_of_ble_eq_true rfl)) dX11_wagon_3 ⟨(Nat.le_of_ble_eq_true rfl), (Nat.le_of_ble_eq_true rfl)⟩) hP hD hS hA [0, 1, 2, 3] [4, 5, 6, 7, 8, 9, 10, 11, 12, 13, 14, 15, 16, 17, 18] rfl rfl (by decide) (by decide) (fun u27 H locs _ hP hD hS => ?_)
      have hP : va_P D vwCl [(xc4 cy xh xq), (xc5 cy xh xq), (xc6 cy xh xq), (xc7 cy xh xq), (xc8 cy xh xq), (xc9 cy xh xq), (xc13 cy xh xq), (xc14 cy xh xq), (xc15 cy xh xq), (xc16 cy xh xq), (xc17 cy xh xq), (xc18 cy xh xq), (xc19 cy xh xq), (xc20 cy xh xq), (xc39 cy xh xq), (xc0 cy xh xq), (xc1 cy xh xq), (xc2 cy xh xq), (xc3 cy xh xq)] H := hP
      have hD : va_D A [(xc4 cy xh xq), (xc5 cy xh xq), (xc6 cy xh xq), (xc7 cy xh xq), (xc8 cy xh xq), (xc9 cy xh xq), (xc13 cy xh xq), (xc14 cy xh xq), (xc15 cy xh xq), (xc16 cy xh xq), (xc17 cy xh xq), (xc18 cy xh xq), (xc19 cy xh xq), (xc20 cy xh xq), (xc39 cy xh xq), (xc0 cy xh xq), (xc1 cy xh xq), (xc2 cy xh xq), (xc3 cy xh xq)] := hD
      refine lv_csv (.ref (xq 7)) rfl ?_
      refine lv_astore (lv' := [(6, .ref (xq 7)), (0, .ref xh), (1, .int 0), (2, .int 2), (3, .int xa), (4, .int xb), (5, .int xc)]) hx hb dX11_wagon_6 hl (by decide) rfl (fun ls hl => ?_)
      refine lv_aload hx hb dX11_wagon_8 (lv_at hl 0 rfl) ?_
      refine lv_ifnull hx hb dX11_wagon_10 ?_
      refine lv_aload_n hx hb dX11_wagon_13 rfl (lv_at hl 1 rfl) ?_
      refine va_get (D := D) (ci := 11) (v := .int 0) (C := RX11) (T := TX11) (N := 18) hx hb hts iw_X11_wagon_X11 hown hKX.1 hP 15 rfl rfl 9 (by decide) (hts (.fieldLink RX11 63 "TrainFerry" "wagonsCome" "I") (by decide +kernel)) (fun _ h9 => h9) rfl dX11_wagon_14 ?_
      refine lv_bipush (v := 100) hx hb dX11_wagon_17 (by decide) ?_
      refine lv_icmp_lt (tgt := 24) hx hb dX11_wagon_19 (by decide) (fun _ => ?_) (fun c9 => absurd (by decide) c9)
      refine lv_iload_n hx hb dX11_wagon_24 rfl (lv_at hl 4 rfl) ?_
      refine lv_bipush (v := 6) hx hb dX11_wagon_25 (by decide) ?_
      refine lv_bipush (v := 26) hx hb dX11_wagon_27 (by decide) ?_
      refine cl_i (wr := [(xc4 cy xh xq), (xc5 cy xh xq), (xc6 cy xh xq), (xc7 cy xh xq), (xc8 cy xh xq), (xc9 cy xh xq), (xc13 cy xh xq), (xc14 cy xh xq), (xc15 cy xh xq), (xc16 cy xh xq), (xc17 cy xh xq), (xc18 cy xh xq), (xc19 cy xh xq), (xc20 cy xh xq), (xc39 cy xh xq), (xc0 cy xh xq), (xc1 cy xh xq), (xc2 cy xh xq), (xc3 cy xh xq)]) (va_runS (As := [.int xa, .int 6, .int 26]) (rest := []) ⟨hx, hb, hml, hown, hts⟩ (c_isWithin l D cy xa 6 26 _) (va_cwS 3 hts gX11_wagon_X11_isWithin rfl rfl rfl (by decide +kernel) ⟨(Nat.le_of_ble_eq_true rfl), (Nat.le_of_ble_eq_true rfl)⟩) (pre_S hKX hP hD [] rfl (by decide) rfl) rfl rfl hl.1 rfl (lv_room (Nat.le_of_ble_eq_true rfl)) dX11_wagon_29 ⟨(Nat.le_of_ble_eq_true rfl), (Nat.le_of_ble_eq_true rfl)⟩) hP hD hS hA [] [0, 1, 2, 3, 4, 5, 6, 7, 8, 9, 10, 11, 12, 13, 14, 15, 16, 17, 18] rfl rfl (by decide) (by decide) (fun u28 H locs _ hP hD hS => ?_)
      have hP : va_P D vwCl [(xc4 cy xh xq), (xc5 cy xh xq), (xc6 cy xh xq), (xc7 cy xh xq), (xc8 cy xh xq), (xc9 cy xh xq), (xc13 cy xh xq), (xc14 cy xh xq), (xc15 cy xh xq), (xc16 cy xh xq), (xc17 cy xh xq), (xc18 cy xh xq), (xc19 cy xh xq), (xc20 cy xh xq), (xc39 cy xh xq), (xc0 cy xh xq), (xc1 cy xh xq), (xc2 cy xh xq), (xc3 cy xh xq)] H := hP
      have hD : va_D A [(xc4 cy xh xq), (xc5 cy xh xq), (xc6 cy xh xq), (xc7 cy xh xq), (xc8 cy xh xq), (xc9 cy xh xq), (xc13 cy xh xq), (xc14 cy xh xq), (xc15 cy xh xq), (xc16 cy xh xq), (xc17 cy xh xq), (xc18 cy xh xq), (xc19 cy xh xq), (xc20 cy xh xq), (xc39 cy xh xq), (xc0 cy xh xq), (xc1 cy xh xq), (xc2 cy xh xq), (xc3 cy xh xq)] := hD
      refine lv_if_eq (tgt := 57) hx hb dX11_wagon_32 (by decide) (fun c29 => ?_) (fun c29 => ?_)
      · refine lv_iconst (v := (-1)) hx hb dX11_wagon_57 (by decide) ?_
        exact en_i hx hb hr hlocks () (by simp [fWagon, wic1, wic2, wic3, wic4, wic5, wic6, c29]) trivial (hP.sub [] rfl) (hD.sub [] (by decide) rfl) hS (Nat.le_of_ble_eq_true rfl) (Nat.le_of_ble_eq_true rfl) dX11_wagon_58
      · refine lv_iload hx hb dX11_wagon_35 (lv_at hl 5 rfl) ?_
        refine lv_bipush (v := 10) hx hb dX11_wagon_37 (by decide) ?_
        refine lv_bipush (v := 90) hx hb dX11_wagon_39 (by decide) ?_
        refine cl_i (wr := [(xc4 cy xh xq), (xc5 cy xh xq), (xc6 cy xh xq), (xc7 cy xh xq), (xc8 cy xh xq), (xc9 cy xh xq), (xc13 cy xh xq), (xc14 cy xh xq), (xc15 cy xh xq), (xc16 cy xh xq), (xc17 cy xh xq), (xc18 cy xh xq), (xc19 cy xh xq), (xc20 cy xh xq), (xc39 cy xh xq), (xc0 cy xh xq), (xc1 cy xh xq), (xc2 cy xh xq), (xc3 cy xh xq)]) (va_runS (As := [.int xb, .int 10, .int 90]) (rest := []) ⟨hx, hb, hml, hown, hts⟩ (c_isWithin l D cy xb 10 90 _) (va_cwS 3 hts gX11_wagon_X11_isWithin rfl rfl rfl (by decide +kernel) ⟨(Nat.le_of_ble_eq_true rfl), (Nat.le_of_ble_eq_true rfl)⟩) (pre_S hKX hP hD [] rfl (by decide) rfl) rfl rfl hl.1 rfl (lv_room (Nat.le_of_ble_eq_true rfl)) dX11_wagon_41 ⟨(Nat.le_of_ble_eq_true rfl), (Nat.le_of_ble_eq_true rfl)⟩) hP hD hS hA [] [0, 1, 2, 3, 4, 5, 6, 7, 8, 9, 10, 11, 12, 13, 14, 15, 16, 17, 18] rfl rfl (by decide) (by decide) (fun u30 H locs _ hP hD hS => ?_)
        have hP : va_P D vwCl [(xc4 cy xh xq), (xc5 cy xh xq), (xc6 cy xh xq), (xc7 cy xh xq), (xc8 cy xh xq), (xc9 cy xh xq), (xc13 cy xh xq), (xc14 cy xh xq), (xc15 cy xh xq), (xc16 cy xh xq), (xc17 cy xh xq), (xc18 cy xh xq), (xc19 cy xh xq), (xc20 cy xh xq), (xc39 cy xh xq), (xc0 cy xh xq), (xc1 cy xh xq), (xc2 cy xh xq), (xc3 cy xh xq)] H := hP
        have hD : va_D A [(xc4 cy xh xq), (xc5 cy xh xq), (xc6 cy xh xq), (xc7 cy xh xq), (xc8 cy xh xq), (xc9 cy xh xq), (xc13 cy xh xq), (xc14 cy xh xq), (xc15 cy xh xq), (xc16 cy xh xq), (xc17 cy xh xq), (xc18 cy xh xq), (xc19 cy xh xq), (xc20 cy xh xq), (xc39 cy xh xq), (xc0 cy xh xq), (xc1 cy xh xq), (xc2 cy xh xq), (xc3 cy xh xq)] := hD
        refine lv_if_eq (tgt := 57) hx hb dX11_wagon_44 (by decide) (fun c31 => ?_) (fun c31 => ?_)
        · refine lv_iconst (v := (-1)) hx hb dX11_wagon_57 (by decide) ?_
          exact en_i hx hb hr hlocks () (by simp [fWagon, wic1, wic2, wic3, wic4, wic5, wic6, c29, c31]) trivial (hP.sub [] rfl) (hD.sub [] (by decide) rfl) hS (Nat.le_of_ble_eq_true rfl) (Nat.le_of_ble_eq_true rfl) dX11_wagon_58
        · refine lv_iload hx hb dX11_wagon_47 (lv_at hl 6 rfl) ?_
          refine lv_iconst (v := 0) hx hb dX11_wagon_49 (by decide) ?_
          refine lv_iconst (v := 3) hx hb dX11_wagon_50 (by decide) ?_
          refine cl_i (wr := [(xc4 cy xh xq), (xc5 cy xh xq), (xc6 cy xh xq), (xc7 cy xh xq), (xc8 cy xh xq), (xc9 cy xh xq), (xc13 cy xh xq), (xc14 cy xh xq), (xc15 cy xh xq), (xc16 cy xh xq), (xc17 cy xh xq), (xc18 cy xh xq), (xc19 cy xh xq), (xc20 cy xh xq), (xc39 cy xh xq), (xc0 cy xh xq), (xc1 cy xh xq), (xc2 cy xh xq), (xc3 cy xh xq)]) (va_runS (As := [.int xc, .int 0, .int 3]) (rest := []) ⟨hx, hb, hml, hown, hts⟩ (c_isWithin l D cy xc 0 3 _) (va_cwS 3 hts gX11_wagon_X11_isWithin rfl rfl rfl (by decide +kernel) ⟨(Nat.le_of_ble_eq_true rfl), (Nat.le_of_ble_eq_true rfl)⟩) (pre_S hKX hP hD [] rfl (by decide) rfl) rfl rfl hl.1 rfl (lv_room (Nat.le_of_ble_eq_true rfl)) dX11_wagon_51 ⟨(Nat.le_of_ble_eq_true rfl), (Nat.le_of_ble_eq_true rfl)⟩) hP hD hS hA [] [0, 1, 2, 3, 4, 5, 6, 7, 8, 9, 10, 11, 12, 13, 14, 15, 16, 17, 18] rfl rfl (by decide) (by decide) (fun u32 H locs _ hP hD hS => ?_)
          have hP : va_P D vwCl [(xc4 cy xh xq), (xc5 cy xh xq), (xc6 cy xh xq), (xc7 cy xh xq), (xc8 cy xh xq), (xc9 cy xh xq), (xc13 cy xh xq), (xc14 cy xh xq), (xc15 cy xh xq), (xc16 cy xh xq), (xc17 cy xh xq), (xc18 cy xh xq), (xc19 cy xh xq), (xc20 cy xh xq), (xc39 cy xh xq), (xc0 cy xh xq), (xc1 cy xh xq), (xc2 cy xh xq), (xc3 cy xh xq)] H := hP
          have hD : va_D A [(xc4 cy xh xq), (xc5 cy xh xq), (xc6 cy xh xq), (xc7 cy xh xq), (xc8 cy xh xq), (xc9 cy xh xq), (xc13 cy xh xq), (xc14 cy xh xq), (xc15 cy xh xq), (xc16 cy xh xq), (xc17 cy xh xq), (xc18 cy xh xq), (xc19 cy xh xq), (xc20 cy xh xq), (xc39 cy xh xq), (xc0 cy xh xq), (xc1 cy xh xq), (xc2 cy xh xq), (xc3 cy xh xq)] := hD
          refine lv_if_ne (tgt := 59) hx hb dX11_wagon_54 (by decide) (fun c33 => ?_) (fun c33 => ?_)
          · refine lv_aload hx hb dX11_wagon_59 (lv_at hl 0 rfl) ?_
            refine lv_iload_n hx hb dX11_wagon_61 rfl (lv_at hl 4 rfl) ?_
            refine lv_sipush (v := 200) hx hb dX11_wagon_62 (by decide) ?_
            refine cl_i (wr := [(xc4 cy xh xq), (xc5 cy xh xq), (xc6 cy xh xq), (xc7 cy xh xq), (xc13 cy xh xq), (xc14 cy xh xq), (xc15 cy xh xq), (xc16 cy xh xq), (xc17 cy xh xq), (xc18 cy xh xq), (xc19 cy xh xq), (xc20 cy xh xq), (xc39 cy xh xq), (xc0 cy xh xq), (xc1 cy xh xq), (xc2 cy xh xq), (xc3 cy xh xq)]) (va_runV (As := [.int xa, .int 200]) (rest := []) ⟨hx, hb, hml, hown, hts⟩ (c_hasRoom l D cy (xq 7) (xq 8) xa c29 _) (cwV 2 hts gX11_wagon_X5_hasRoom rfl rfl rfl (by decide +kernel) ⟨(Nat.le_of_ble_eq_true rfl), (Nat.le_of_ble_eq_true rfl)⟩) (pre_V hKX hP hD (ci := 5) (q0 := 4) rfl rfl [4, 5] rfl (by decide) rfl) rfl rfl hl.1 rfl (lv_room (Nat.le_of_ble_eq_true rfl)) dX11_wagon_65 ⟨(Nat.le_of_ble_eq_true rfl), (Nat.le_of_ble_eq_true rfl)⟩) hP hD hS hA [4, 5] [0, 1, 2, 3, 6, 7, 8, 9, 10, 11, 12, 13, 14, 15, 16, 17, 18] rfl rfl (by decide) (by decide) (fun u34 H locs _ hP hD hS => ?_)
            have hP : va_P D vwCl [(xc4 cy xh xq), (xc5 cy xh xq), (xc6 cy xh xq), (xc7 cy xh xq), (xc13 cy xh xq), (xc14 cy xh xq), (xc15 cy xh xq), (xc16 cy xh xq), (xc17 cy xh xq), (xc18 cy xh xq), (xc19 cy xh xq), (xc20 cy xh xq), (xc39 cy xh xq), (xc0 cy xh xq), (xc1 cy xh xq), (xc2 cy xh xq), (xc3 cy xh xq), ((xq 7), .inr (5, [.ref (xq 8), .int 0, .int 0])), ((xq 8), .inl (cy 6, 33, .inr (.inr (.inr (.inr (fun _ => none))))))] H := hP
            have hD : va_D A [(xc4 cy xh xq), (xc5 cy xh xq), (xc6 cy xh xq), (xc7 cy xh xq), (xc13 cy xh xq), (xc14 cy xh xq), (xc15 cy xh xq), (xc16 cy xh xq), (xc17 cy xh xq), (xc18 cy xh xq), (xc19 cy xh xq), (xc20 cy xh xq), (xc39 cy xh xq), (xc0 cy xh xq), (xc1 cy xh xq), (xc2 cy xh xq), (xc3 cy xh xq), ((xq 7), .inr (5, [.ref (xq 8), .int 0, .int 0])), ((xq 8), .inl (cy 6, 33, .inr (.inr (.inr (.inr (fun _ => none))))))] := hD
            refine lv_if_ne (tgt := 73) hx hb dX11_wagon_68 (by decide) (fun _ => ?_) (fun c9 => absurd c9 (by decide))
            refine va_new (ci := 10) (fs := [.int 0, .int 0, .int 0, .int 0, .int 0, .null, .int 0, .int 0, .int 0, .int 0, .int 0, .int 0]) (C := RX10) (T := TX10) (N := 12) hx hb hts iw_X11_wagon_X10 tyX10 tyX10_ok hown (hts (.classLink RX11 23 RX10) (by decide +kernel)) (hts (.instantiable RX10 12) (by decide +kernel)) (hts (.initialized RX10) (by decide +kernel)) hKX.1 hP hD hS hA rfl (fun j hj => by rcases (show j = 0 ∨ j = 1 ∨ j = 2 ∨ j = 3 ∨ j = 4 ∨ j = 5 ∨ j = 6 ∨ j = 7 ∨ j = 8 ∨ j = 9 ∨ j = 10 ∨ j = 11 by omega) with rfl | rfl | rfl | rfl | rfl | rfl | rfl | rfl | rfl | rfl | rfl | rfl <;> rfl) (Nat.le_of_ble_eq_true rfl) (Nat.le_of_ble_eq_true rfl) dX11_wagon_73 (fun q35 H hP hD hS => ?_)
            have hP : va_P D vwCl [(xc4 cy xh xq), (xc5 cy xh xq), (xc6 cy xh xq), (xc7 cy xh xq), (xc13 cy xh xq), (xc14 cy xh xq), (xc15 cy xh xq), (xc16 cy xh xq), (xc17 cy xh xq), (xc18 cy xh xq), (xc19 cy xh xq), (xc20 cy xh xq), (xc39 cy xh xq), (xc0 cy xh xq), (xc1 cy xh xq), (xc2 cy xh xq), (xc3 cy xh xq), ((xq 7), .inr (5, [.ref (xq 8), .int 0, .int 0])), ((xq 8), .inl (cy 6, 33, .inr (.inr (.inr (.inr (fun _ => none)))))), (q35, .inr (10, [.int 0, .int 0, .int 0, .int 0, .int 0, .null, .int 0, .int 0, .int 0, .int 0, .int 0, .int 0]))] H := hP
            have hD : va_D A [(xc4 cy xh xq), (xc5 cy xh xq), (xc6 cy xh xq), (xc7 cy xh xq), (xc13 cy xh xq), (xc14 cy xh xq), (xc15 cy xh xq), (xc16 cy xh xq), (xc17 cy xh xq), (xc18 cy xh xq), (xc19 cy xh xq), (xc20 cy xh xq), (xc39 cy xh xq), (xc0 cy xh xq), (xc1 cy xh xq), (xc2 cy xh xq), (xc3 cy xh xq), ((xq 7), .inr (5, [.ref (xq 8), .int 0, .int 0])), ((xq 8), .inl (cy 6, 33, .inr (.inr (.inr (.inr (fun _ => none)))))), (q35, .inr (10, [.int 0, .int 0, .int 0, .int 0, .int 0, .null, .int 0, .int 0, .int 0, .int 0, .int 0, .int 0]))] := hD
            refine lv_dup hx hb dX11_wagon_76 rfl ?_
            refine lv_aload_n hx hb dX11_wagon_77 rfl (lv_at hl 1 rfl) ?_
            refine va_get (D := D) (ci := 11) (v := .int 0) (C := RX11) (T := TX11) (N := 18) hx hb hts iw_X11_wagon_X11 hown hKX.1 hP 13 rfl rfl 9 (by decide) (hts (.fieldLink RX11 63 "TrainFerry" "wagonsCome" "I") (by decide +kernel)) (fun _ h9 => h9) rfl dX11_wagon_78 ?_
            refine lv_iload_n hx hb dX11_wagon_81 rfl (lv_at hl 2 rfl) ?_
            refine lv_iload_n hx hb dX11_wagon_82 rfl (lv_at hl 4 rfl) ?_
            refine lv_iload hx hb dX11_wagon_83 (lv_at hl 5 rfl) ?_
            refine lv_iload hx hb dX11_wagon_85 (lv_at hl 6 rfl) ?_
            refine cl_v (wr := [(xc4 cy xh xq), (xc5 cy xh xq), (xc6 cy xh xq), (xc7 cy xh xq), (xc13 cy xh xq), (xc14 cy xh xq), (xc15 cy xh xq), (xc16 cy xh xq), (xc17 cy xh xq), (xc18 cy xh xq), (xc19 cy xh xq), (xc20 cy xh xq), (xc39 cy xh xq), (xc0 cy xh xq), (xc1 cy xh xq), (xc2 cy xh xq), (xc3 cy xh xq), ((xq 7), .inr (5, [.ref (xq 8), .int 0, .int 0])), ((xq 8), .inl (cy 6, 33, .inr (.inr (.inr (.inr (fun _ => none))))))]) (va_runI (As := [.int 0, .int 0, .int xa, .int xb, .int xc]) (rest := [.ref q35]) ⟨hx, hb, hml, hown, hts⟩ (c_Wagon_init l D cy q35 0 0 xa xb xc _) (cwI 5 hts gX11_wagon_X10_init rfl rfl rfl (hts (.initialized RX10) (by decide +kernel)) (hts (.methodLink RX11 120 yX10_init) (by decide +kernel)) (hts (.instanceMethod yX10_init) (by decide +kernel)) rfl (by decide +kernel) ⟨(Nat.le_of_ble_eq_true rfl), (Nat.le_of_ble_eq_true rfl)⟩) (pre_S hKX hP hD [19] rfl (by decide) rfl) rfl rfl hl.1 rfl (lv_room (Nat.le_of_ble_eq_true rfl)) dX11_wagon_87 ⟨(Nat.le_of_ble_eq_true rfl), (Nat.le_of_ble_eq_true rfl)⟩) hP hD hS hA [19] [0, 1, 2, 3, 4, 5, 6, 7, 8, 9, 10, 11, 12, 13, 14, 15, 16, 17, 18] rfl rfl (by decide) (by decide) (fun u36 H locs _ hP hD hS => ?_)
            have hP : va_P D vwCl [(xc4 cy xh xq), (xc5 cy xh xq), (xc6 cy xh xq), (xc7 cy xh xq), (xc13 cy xh xq), (xc14 cy xh xq), (xc15 cy xh xq), (xc16 cy xh xq), (xc17 cy xh xq), (xc18 cy xh xq), (xc19 cy xh xq), (xc20 cy xh xq), (xc39 cy xh xq), (xc0 cy xh xq), (xc1 cy xh xq), (xc2 cy xh xq), (xc3 cy xh xq), ((xq 7), .inr (5, [.ref (xq 8), .int 0, .int 0])), ((xq 8), .inl (cy 6, 33, .inr (.inr (.inr (.inr (fun _ => none)))))), (q35, .inr (10, [.int 0, .int 0, .int xa, .int xb, .int xc, .ref (u36 0), .int 0, .int 0, .int 0, .int 0, .int 0, .int 0])), ((u36 0), .inl (cy 0, 4, .inl (fun _ => 0)))] H := hP
            have hD : va_D A [(xc4 cy xh xq), (xc5 cy xh xq), (xc6 cy xh xq), (xc7 cy xh xq), (xc13 cy xh xq), (xc14 cy xh xq), (xc15 cy xh xq), (xc16 cy xh xq), (xc17 cy xh xq), (xc18 cy xh xq), (xc19 cy xh xq), (xc20 cy xh xq), (xc39 cy xh xq), (xc0 cy xh xq), (xc1 cy xh xq), (xc2 cy xh xq), (xc3 cy xh xq), ((xq 7), .inr (5, [.ref (xq 8), .int 0, .int 0])), ((xq 8), .inl (cy 6, 33, .inr (.inr (.inr (.inr (fun _ => none)))))), (q35, .inr (10, [.int 0, .int 0, .int xa, .int xb, .int xc, .ref (u36 0), .int 0, .int 0, .int 0, .int 0, .int 0, .int 0])), ((u36 0), .inl (cy 0, 4, .inl (fun _ => 0)))] := hD
            refine lv_astore (lv' := [(7, .ref q35), (6, .ref (xq 7)), (0, .ref xh), (1, .int 0), (2, .int 2), (3, .int xa), (4, .int xb), (5, .int xc)]) hx hb dX11_wagon_90 hl (by decide) rfl (fun ls hl => ?_)
            refine lv_aload hx hb dX11_wagon_92 (lv_at hl 1 rfl) ?_
            refine lv_aload hx hb dX11_wagon_94 (lv_at hl 0 rfl) ?_
            refine cl_v (wr := [(xc4 cy xh xq), (xc5 cy xh xq), (xc6 cy xh xq), (xc7 cy xh xq), (xc13 cy xh xq), (xc14 cy xh xq), (xc15 cy xh xq), (xc16 cy xh xq), (xc17 cy xh xq), (xc18 cy xh xq), (xc19 cy xh xq), (xc20 cy xh xq), (xc39 cy xh xq), (xc0 cy xh xq), (xc1 cy xh xq), (xc2 cy xh xq), (xc3 cy xh xq), ((u36 0), .inl (cy 0, 4, .inl (fun _ => 0)))]) (va_runV (As := [.ref q35]) (rest := []) ⟨hx, hb, hml, hown, hts⟩ (c_Row_add l D cy (xq 7) (xq 8) q35 (u36 0) 0 0 xa xb xc _) (cwV 1 hts gX11_wagon_X5_add rfl rfl rfl (by decide +kernel) ⟨(Nat.le_of_ble_eq_true rfl), (Nat.le_of_ble_eq_true rfl)⟩) (pre_V hKX hP hD (ci := 5) (q0 := 17) rfl rfl [17, 18, 19] rfl (by decide) rfl) rfl rfl hl.1 rfl (lv_room (Nat.le_of_ble_eq_true rfl)) dX11_wagon_96 ⟨(Nat.le_of_ble_eq_true rfl), (Nat.le_of_ble_eq_true rfl)⟩) hP hD hS hA [17, 18, 19] [0, 1, 2, 3, 4, 5, 6, 7, 8, 9, 10, 11, 12, 13, 14, 15, 16, 20] rfl rfl (by decide) (by decide) (fun u37 H locs _ hP hD hS => ?_)
            have hP : va_P D vwCl [(xc4 cy xh xq), (xc5 cy xh xq), (xc6 cy xh xq), (xc7 cy xh xq), (xc13 cy xh xq), (xc14 cy xh xq), (xc15 cy xh xq), (xc16 cy xh xq), (xc17 cy xh xq), (xc18 cy xh xq), (xc19 cy xh xq), (xc20 cy xh xq), (xc39 cy xh xq), (xc0 cy xh xq), (xc1 cy xh xq), (xc2 cy xh xq), (xc3 cy xh xq), ((u36 0), .inl (cy 0, 4, .inl (fun _ => 0))), (q35, .inr (10, [.int 0, .int 0, .int xa, .int xb, .int xc, .ref (u36 0), .int 0, .int 0, .int 0, .int 0, .int 0, .int 0]))] H := hP
            have hD : va_D A [(xc4 cy xh xq), (xc5 cy xh xq), (xc6 cy xh xq), (xc7 cy xh xq), (xc13 cy xh xq), (xc14 cy xh xq), (xc15 cy xh xq), (xc16 cy xh xq), (xc17 cy xh xq), (xc18 cy xh xq), (xc19 cy xh xq), (xc20 cy xh xq), (xc39 cy xh xq), (xc0 cy xh xq), (xc1 cy xh xq), (xc2 cy xh xq), (xc3 cy xh xq), ((u36 0), .inl (cy 0, 4, .inl (fun _ => 0))), (q35, .inr (10, [.int 0, .int 0, .int xa, .int xb, .int xc, .ref (u36 0), .int 0, .int 0, .int 0, .int 0, .int 0, .int 0]))] := hD
            refine lv_aload hx hb dX11_wagon_99 (lv_at hl 0 rfl) ?_
            refine lv_iload_n hx hb dX11_wagon_101 rfl (lv_at hl 3 rfl) ?_
            refine lv_iload_n hx hb dX11_wagon_102 rfl (lv_at hl 4 rfl) ?_
            refine cl_v (wr := [(xc4 cy xh xq), (xc5 cy xh xq), (xc6 cy xh xq), (xc7 cy xh xq), (xc13 cy xh xq), (xc14 cy xh xq), (xc15 cy xh xq), (xc16 cy xh xq), (xc17 cy xh xq), (xc18 cy xh xq), (xc19 cy xh xq), (xc20 cy xh xq), (xc39 cy xh xq), (xc0 cy xh xq), (xc1 cy xh xq), (xc2 cy xh xq), (xc3 cy xh xq), ((u36 0), .inl (cy 0, 4, .inl (fun _ => 0)))]) (va_runV (As := [.int 0, .int 2]) (rest := []) ⟨hx, hb, hml, hown, hts⟩ (c_standAt l D cy q35 (u36 0) 0 0 xa xb xc 0 2 _) (cwV 2 hts gX11_wagon_X10_standAt rfl rfl rfl (by decide +kernel) ⟨(Nat.le_of_ble_eq_true rfl), (Nat.le_of_ble_eq_true rfl)⟩) (pre_V hKX hP hD (ci := 10) (q0 := 18) rfl rfl [18] rfl (by decide) rfl) rfl rfl hl.1 rfl (lv_room (Nat.le_of_ble_eq_true rfl)) dX11_wagon_103 ⟨(Nat.le_of_ble_eq_true rfl), (Nat.le_of_ble_eq_true rfl)⟩) hP hD hS hA [18] [0, 1, 2, 3, 4, 5, 6, 7, 8, 9, 10, 11, 12, 13, 14, 15, 16, 17] rfl rfl (by decide) (by decide) (fun u38 H locs _ hP hD hS => ?_)
            have hP : va_P D vwCl [(xc4 cy xh xq), (xc5 cy xh xq), (xc6 cy xh xq), (xc7 cy xh xq), (xc13 cy xh xq), (xc14 cy xh xq), (xc15 cy xh xq), (xc16 cy xh xq), (xc17 cy xh xq), (xc18 cy xh xq), (xc19 cy xh xq), (xc20 cy xh xq), (xc39 cy xh xq), (xc0 cy xh xq), (xc1 cy xh xq), (xc2 cy xh xq), (xc3 cy xh xq), ((u36 0), .inl (cy 0, 4, .inl (fun _ => 0))), (q35, .inr (10, [.int 0, .int 0, .int xa, .int xb, .int xc, .ref (u36 0), .int 0, .int 0, .int 0, .int 0, .int 2, .int 0]))] H := hP
            have hD : va_D A [(xc4 cy xh xq), (xc5 cy xh xq), (xc6 cy xh xq), (xc7 cy xh xq), (xc13 cy xh xq), (xc14 cy xh xq), (xc15 cy xh xq), (xc16 cy xh xq), (xc17 cy xh xq), (xc18 cy xh xq), (xc19 cy xh xq), (xc20 cy xh xq), (xc39 cy xh xq), (xc0 cy xh xq), (xc1 cy xh xq), (xc2 cy xh xq), (xc3 cy xh xq), ((u36 0), .inl (cy 0, 4, .inl (fun _ => 0))), (q35, .inr (10, [.int 0, .int 0, .int xa, .int xb, .int xc, .ref (u36 0), .int 0, .int 0, .int 0, .int 0, .int 2, .int 0]))] := hD
            refine lv_aload_n hx hb dX11_wagon_106 rfl (lv_at hl 2 rfl) ?_
            refine va_get (D := D) (ci := 11) (v := .ref (xq 38)) (C := RX11) (T := TX11) (N := 18) hx hb hts iw_X11_wagon_X11 hown hKX.1 hP 13 rfl rfl 2 (by decide) (hts (.fieldLink RX11 25 "TrainFerry" "wagons" "[LTrainFerry$Wagon;") (by decide +kernel)) (fun _ h9 => h9) rfl dX11_wagon_107 ?_
            refine lv_aload_n hx hb dX11_wagon_110 rfl (lv_at hl 2 rfl) ?_
            refine va_get (D := D) (ci := 11) (v := .int 0) (C := RX11) (T := TX11) (N := 18) hx hb hts iw_X11_wagon_X11 hown hKX.1 hP 13 rfl rfl 9 (by decide) (hts (.fieldLink RX11 63 "TrainFerry" "wagonsCome" "I") (by decide +kernel)) (fun _ h9 => h9) rfl dX11_wagon_111 ?_
            refine lv_aload hx hb dX11_wagon_114 (lv_at hl 0 rfl) ?_
            refine va_astq hx hb hKX.1 hP hD hS 12 6 18 10 rfl rfl rfl rfl (vind (by decide)) dX11_wagon_116 (fun H locs hP hD hS => ?_)
            have hP : va_P D vwCl [(xc4 cy xh xq), (xc5 cy xh xq), (xc6 cy xh xq), (xc7 cy xh xq), (xc13 cy xh xq), (xc14 cy xh xq), (xc15 cy xh xq), (xc16 cy xh xq), (xc17 cy xh xq), (xc18 cy xh xq), (xc19 cy xh xq), (xc20 cy xh xq), ((xq 38), .inl (cy 6, 100, .inr (.inr (.inr (.inr (va_up (fun _ => none) 0 (some q35))))))), (xc0 cy xh xq), (xc1 cy xh xq), (xc2 cy xh xq), (xc3 cy xh xq), ((u36 0), .inl (cy 0, 4, .inl (fun _ => 0))), (q35, .inr (10, [.int 0, .int 0, .int xa, .int xb, .int xc, .ref (u36 0), .int 0, .int 0, .int 0, .int 0, .int 2, .int 0]))] H := hP
            have hD : va_D A [(xc4 cy xh xq), (xc5 cy xh xq), (xc6 cy xh xq), (xc7 cy xh xq), (xc13 cy xh xq), (xc14 cy xh xq), (xc15 cy xh xq), (xc16 cy xh xq), (xc17 cy xh xq), (xc18 cy xh xq), (xc19 cy xh xq), (xc20 cy xh xq), ((xq 38), .inl (cy 6, 100, .inr (.inr (.inr (.inr (va_up (fun _ => none) 0 (some q35))))))), (xc0 cy xh xq), (xc1 cy xh xq), (xc2 cy xh xq), (xc3 cy xh xq), ((u36 0), .inl (cy 0, 4, .inl (fun _ => 0))), (q35, .inr (10, [.int 0, .int 0, .int xa, .int xb, .int xc, .ref (u36 0), .int 0, .int 0, .int 0, .int 0, .int 2, .int 0]))] := hD
            refine lv_aload_n hx hb dX11_wagon_117 rfl (lv_at hl 2 rfl) ?_
            refine lv_dup hx hb dX11_wagon_118 rfl ?_
            refine va_get (D := D) (ci := 11) (v := .int 0) (C := RX11) (T := TX11) (N := 18) hx hb hts iw_X11_wagon_X11 hown hKX.1 hP 13 rfl rfl 9 (by decide) (hts (.fieldLink RX11 63 "TrainFerry" "wagonsCome" "I") (by decide +kernel)) (fun _ h9 => h9) rfl dX11_wagon_119 ?_
            refine lv_iconst (v := 1) hx hb dX11_wagon_122 (by decide) ?_
            refine lv_iadd hx hb dX11_wagon_123 ?_
            refine lv_cst 1 (by decide) ?_
            refine va_put (D := D) (ci := 11) (v := .int 1) (ty := .int) (C := RX11) (T := TX11) (N := 18) hx hb hts iw_X11_wagon_X11 tyX11 tyX11_ok nmX11 hown hKX.1 hP hD hS 13 rfl rfl 9 (by decide) (hts (.fieldLink RX11 63 "TrainFerry" "wagonsCome" "I") (by decide +kernel)) (fun _ h9 => h9) rfl (by decide +kernel) rfl rfl (Nat.le_of_ble_eq_true rfl) dX11_wagon_124 (fun H locs hP hD hS => ?_)
            have hP : va_P D vwCl [(xc4 cy xh xq), (xc5 cy xh xq), (xc6 cy xh xq), (xc7 cy xh xq), (xc13 cy xh xq), (xc14 cy xh xq), (xc15 cy xh xq), (xc16 cy xh xq), (xc17 cy xh xq), (xc18 cy xh xq), (xc19 cy xh xq), (xc20 cy xh xq), ((xq 38), .inl (cy 6, 100, .inr (.inr (.inr (.inr (va_up (fun _ => none) 0 (some q35))))))), (xh, .inr (11, [.ref (xq 0), .ref (xq 23), .ref (xq 38), .ref (xq 39), .ref (xq 42), .ref (xq 43), .null, .null, .int 0, .int 1, .int 0, .int 0, .int 0, .int (-1), .int 0, .int 0, .int 5, .int 100])), (xc1 cy xh xq), (xc2 cy xh xq), (xc3 cy xh xq), ((u36 0), .inl (cy 0, 4, .inl (fun _ => 0))), (q35, .inr (10, [.int 0, .int 0, .int xa, .int xb, .int xc, .ref (u36 0), .int 0, .int 0, .int 0, .int 0, .int 2, .int 0]))] H := hP
            have hD : va_D A [(xc4 cy xh xq), (xc5 cy xh xq), (xc6 cy xh xq), (xc7 cy xh xq), (xc13 cy xh xq), (xc14 cy xh xq), (xc15 cy xh xq), (xc16 cy xh xq), (xc17 cy xh xq), (xc18 cy xh xq), (xc19 cy xh xq), (xc20 cy xh xq), ((xq 38), .inl (cy 6, 100, .inr (.inr (.inr (.inr (va_up (fun _ => none) 0 (some q35))))))), (xh, .inr (11, [.ref (xq 0), .ref (xq 23), .ref (xq 38), .ref (xq 39), .ref (xq 42), .ref (xq 43), .null, .null, .int 0, .int 1, .int 0, .int 0, .int 0, .int (-1), .int 0, .int 0, .int 5, .int 100])), (xc1 cy xh xq), (xc2 cy xh xq), (xc3 cy xh xq), ((u36 0), .inl (cy 0, 4, .inl (fun _ => 0))), (q35, .inr (10, [.int 0, .int 0, .int xa, .int xb, .int xc, .ref (u36 0), .int 0, .int 0, .int 0, .int 0, .int 2, .int 0]))] := hD
            refine lv_aload hx hb dX11_wagon_127 (lv_at hl 0 rfl) ?_
            refine va_get (D := D) (ci := 10) (v := .int 0) (C := RX10) (T := TX10) (N := 12) hx hb hts iw_X11_wagon_X10 hown hKX.1 hP 18 rfl rfl 0 (by decide) (hts (.fieldLink RX11 131 "TrainFerry$Wagon" "number" "I") (by decide +kernel)) (fun _ h9 => h9) rfl dX11_wagon_129 ?_
            exact en_i hx hb hr hlocks () (by simp [fWagon, wic1, wic2, wic3, wic4, wic5, wic6, c29, c31, c33]) trivial (hP.sub [] rfl) (hD.sub [] (by decide) rfl) hS (Nat.le_of_ble_eq_true rfl) (Nat.le_of_ble_eq_true rfl) dX11_wagon_132
          · refine lv_iconst (v := (-1)) hx hb dX11_wagon_57 (by decide) ?_
            exact en_i hx hb hr hlocks () (by simp [fWagon, wic1, wic2, wic3, wic4, wic5, wic6, c29, c31, c33]) trivial (hP.sub [] rfl) (hD.sub [] (by decide) rfl) hS (Nat.le_of_ble_eq_true rfl) (Nat.le_of_ble_eq_true rfl) dX11_wagon_58
    · refine lv_aload_n hx hb dX11_wagon_0 rfl (lv_at hl 0 rfl) ?_
      refine lv_iload_n hx hb dX11_wagon_1 rfl (lv_at hl 1 rfl) ?_
      refine lv_iload_n hx hb dX11_wagon_2 rfl (lv_at hl 2 rfl) ?_
      refine cl_q (wr := [(xc0 cy xh xq), (xc1 cy xh xq), (xc2 cy xh xq), (xc3 cy xh xq), (xc4 cy xh xq), (xc5 cy xh xq), (xc6 cy xh xq), (xc7 cy xh xq), (xc8 cy xh xq), (xc9 cy xh xq), (xc13 cy xh xq), (xc14 cy xh xq), (xc15 cy xh xq), (xc16 cy xh xq), (xc17 cy xh xq), (xc18 cy xh xq), (xc19 cy xh xq), (xc20 cy xh xq), (xc39 cy xh xq)]) (va_runV (As := [.int 0, .int xt]) (rest := []) ⟨hx, hb, hml, hown, hts⟩ (c_yardRow_t l D cy xh _ 0 xt o2 _) (cwV 2 hts gX11_wagon_X11_yardRow rfl rfl rfl (by decide +kernel) ⟨(Nat.le_of_ble_eq_true rfl), (Nat.le_of_ble_eq_true rfl)⟩) (pre_V hKX hP hD (ci := 11) (q0 := 0) rfl rfl [] rfl (by decide) rfl) rfl rfl hl.1 rfl (lv_room (Nat.le_of_ble_eq_true rfl)) dX11_wagon_3 ⟨(Nat.le_of_ble_eq_true rfl), (Nat.le_of_ble_eq_true rfl)⟩) hP hD hS hA [] [0, 1, 2, 3, 4, 5, 6, 7, 8, 9, 10, 11, 12, 13, 14, 15, 16, 17, 18] rfl rfl (by decide) (by decide) (fun u39 H locs _ hP hD hS => ?_)
      have hP : va_P D vwCl [(xc0 cy xh xq), (xc1 cy xh xq), (xc2 cy xh xq), (xc3 cy xh xq), (xc4 cy xh xq), (xc5 cy xh xq), (xc6 cy xh xq), (xc7 cy xh xq), (xc8 cy xh xq), (xc9 cy xh xq), (xc13 cy xh xq), (xc14 cy xh xq), (xc15 cy xh xq), (xc16 cy xh xq), (xc17 cy xh xq), (xc18 cy xh xq), (xc19 cy xh xq), (xc20 cy xh xq), (xc39 cy xh xq)] H := hP
      have hD : va_D A [(xc0 cy xh xq), (xc1 cy xh xq), (xc2 cy xh xq), (xc3 cy xh xq), (xc4 cy xh xq), (xc5 cy xh xq), (xc6 cy xh xq), (xc7 cy xh xq), (xc8 cy xh xq), (xc9 cy xh xq), (xc13 cy xh xq), (xc14 cy xh xq), (xc15 cy xh xq), (xc16 cy xh xq), (xc17 cy xh xq), (xc18 cy xh xq), (xc19 cy xh xq), (xc20 cy xh xq), (xc39 cy xh xq)] := hD
      refine lv_csv (.null) rfl ?_
      refine lv_astoreN (lv' := [(6, .null), (0, .ref xh), (1, .int 0), (2, .int xt), (3, .int xa), (4, .int xb), (5, .int xc)]) hx hb dX11_wagon_6 hl (by decide) rfl (fun ls hl => ?_)
      refine lv_aloadN hx hb dX11_wagon_8 (lv_at hl 0 rfl) ?_
      refine lv_ifnullN (tgt := 22) hx hb dX11_wagon_10 (by decide) ?_
      refine lv_iconst (v := (-1)) hx hb dX11_wagon_22 (by decide) ?_
      exact en_i hx hb hr hlocks () (by simp [fWagon, wic1, wic2, wic3, wic4, wic5, wic6, o2]) trivial (hP.sub [] rfl) (hD.sub [] (by decide) rfl) hS (Nat.le_of_ble_eq_true rfl) (Nat.le_of_ble_eq_true rfl) dX11_wagon_23
  · rcases sp3 xt with rfl | rfl | rfl | o40
    · refine lv_aload_n hx hb dX11_wagon_0 rfl (lv_at hl 0 rfl) ?_
      refine lv_iload_n hx hb dX11_wagon_1 rfl (lv_at hl 1 rfl) ?_
      refine lv_iload_n hx hb dX11_wagon_2 rfl (lv_at hl 2 rfl) ?_
      refine cl_q (wr := [(xc2 cy xh xq), (xc3 cy xh xq), (xc4 cy xh xq), (xc5 cy xh xq), (xc6 cy xh xq), (xc7 cy xh xq), (xc8 cy xh xq), (xc9 cy xh xq), (xc15 cy xh xq), (xc16 cy xh xq), (xc17 cy xh xq), (xc18 cy xh xq), (xc19 cy xh xq), (xc20 cy xh xq), (xc39 cy xh xq)]) (va_runV (As := [.int 1, .int 0]) (rest := []) ⟨hx, hb, hml, hown, hts⟩ (c_yardRow_10 l D cy xh xq _) (cwV 2 hts gX11_wagon_X11_yardRow rfl rfl rfl (by decide +kernel) ⟨(Nat.le_of_ble_eq_true rfl), (Nat.le_of_ble_eq_true rfl)⟩) (pre_V hKX hP hD (ci := 11) (q0 := 0) rfl rfl [0, 1, 10, 11] rfl (by decide) rfl) rfl rfl hl.1 rfl (lv_room (Nat.le_of_ble_eq_true rfl)) dX11_wagon_3 ⟨(Nat.le_of_ble_eq_true rfl), (Nat.le_of_ble_eq_true rfl)⟩) hP hD hS hA [0, 1, 10, 11] [2, 3, 4, 5, 6, 7, 8, 9, 12, 13, 14, 15, 16, 17, 18] rfl rfl (by decide) (by decide) (fun u41 H locs _ hP hD hS => ?_)
      have hP : va_P D vwCl [(xc2 cy xh xq), (xc3 cy xh xq), (xc4 cy xh xq), (xc5 cy xh xq), (xc6 cy xh xq), (xc7 cy xh xq), (xc8 cy xh xq), (xc9 cy xh xq), (xc15 cy xh xq), (xc16 cy xh xq), (xc17 cy xh xq), (xc18 cy xh xq), (xc19 cy xh xq), (xc20 cy xh xq), (xc39 cy xh xq), (xc0 cy xh xq), (xc1 cy xh xq), (xc13 cy xh xq), (xc14 cy xh xq)] H := hP
      have hD : va_D A [(xc2 cy xh xq), (xc3 cy xh xq), (xc4 cy xh xq), (xc5 cy xh xq), (xc6 cy xh xq), (xc7 cy xh xq), (xc8 cy xh xq), (xc9 cy xh xq), (xc15 cy xh xq), (xc16 cy xh xq), (xc17 cy xh xq), (xc18 cy xh xq), (xc19 cy xh xq), (xc20 cy xh xq), (xc39 cy xh xq), (xc0 cy xh xq), (xc1 cy xh xq), (xc13 cy xh xq), (xc14 cy xh xq)] := hD
      refine lv_csv (.ref (xq 14)) rfl ?_
      refine lv_astore (lv' := [(6, .ref (xq 14)), (0, .ref xh), (1, .int 1), (2, .int 0), (3, .int xa), (4, .int xb), (5, .int xc)]) hx hb dX11_wagon_6 hl (by decide) rfl (fun ls hl => ?_)
      refine lv_aload hx hb dX11_wagon_8 (lv_at hl 0 rfl) ?_
      refine lv_ifnull hx hb dX11_wagon_10 ?_
      refine lv_aload_n hx hb dX11_wagon_13 rfl (lv_at hl 1 rfl) ?_
      refine va_get (D := D) (ci := 11) (v := .int 0) (C := RX11) (T := TX11) (N := 18) hx hb hts iw_X11_wagon_X11 hown hKX.1 hP 15 rfl rfl 9 (by decide) (hts (.fieldLink RX11 63 "TrainFerry" "wagonsCome" "I") (by decide +kernel)) (fun _ h9 => h9) rfl dX11_wagon_14 ?_
      refine lv_bipush (v := 100) hx hb dX11_wagon_17 (by decide) ?_
      refine lv_icmp_lt (tgt := 24) hx hb dX11_wagon_19 (by decide) (fun _ => ?_) (fun c9 => absurd (by decide) c9)
      refine lv_iload_n hx hb dX11_wagon_24 rfl (lv_at hl 4 rfl) ?_
      refine lv_bipush (v := 6) hx hb dX11_wagon_25 (by decide) ?_
      refine lv_bipush (v := 26) hx hb dX11_wagon_27 (by decide) ?_
      refine cl_i (wr := [(xc2 cy xh xq), (xc3 cy xh xq), (xc4 cy xh xq), (xc5 cy xh xq), (xc6 cy xh xq), (xc7 cy xh xq), (xc8 cy xh xq), (xc9 cy xh xq), (xc15 cy xh xq), (xc16 cy xh xq), (xc17 cy xh xq), (xc18 cy xh xq), (xc19 cy xh xq), (xc20 cy xh xq), (xc39 cy xh xq), (xc0 cy xh xq), (xc1 cy xh xq), (xc13 cy xh xq), (xc14 cy xh xq)]) (va_runS (As := [.int xa, .int 6, .int 26]) (rest := []) ⟨hx, hb, hml, hown, hts⟩ (c_isWithin l D cy xa 6 26 _) (va_cwS 3 hts gX11_wagon_X11_isWithin rfl rfl rfl (by decide +kernel) ⟨(Nat.le_of_ble_eq_true rfl), (Nat.le_of_ble_eq_true rfl)⟩) (pre_S hKX hP hD [] rfl (by decide) rfl) rfl rfl hl.1 rfl (lv_room (Nat.le_of_ble_eq_true rfl)) dX11_wagon_29 ⟨(Nat.le_of_ble_eq_true rfl), (Nat.le_of_ble_eq_true rfl)⟩) hP hD hS hA [] [0, 1, 2, 3, 4, 5, 6, 7, 8, 9, 10, 11, 12, 13, 14, 15, 16, 17, 18] rfl rfl (by decide) (by decide) (fun u42 H locs _ hP hD hS => ?_)
      have hP : va_P D vwCl [(xc2 cy xh xq), (xc3 cy xh xq), (xc4 cy xh xq), (xc5 cy xh xq), (xc6 cy xh xq), (xc7 cy xh xq), (xc8 cy xh xq), (xc9 cy xh xq), (xc15 cy xh xq), (xc16 cy xh xq), (xc17 cy xh xq), (xc18 cy xh xq), (xc19 cy xh xq), (xc20 cy xh xq), (xc39 cy xh xq), (xc0 cy xh xq), (xc1 cy xh xq), (xc13 cy xh xq), (xc14 cy xh xq)] H := hP
      have hD : va_D A [(xc2 cy xh xq), (xc3 cy xh xq), (xc4 cy xh xq), (xc5 cy xh xq), (xc6 cy xh xq), (xc7 cy xh xq), (xc8 cy xh xq), (xc9 cy xh xq), (xc15 cy xh xq), (xc16 cy xh xq), (xc17 cy xh xq), (xc18 cy xh xq), (xc19 cy xh xq), (xc20 cy xh xq), (xc39 cy xh xq), (xc0 cy xh xq), (xc1 cy xh xq), (xc13 cy xh xq), (xc14 cy xh xq)] := hD
      refine lv_if_eq (tgt := 57) hx hb dX11_wagon_32 (by decide) (fun c43 => ?_) (fun c43 => ?_)
      · refine lv_iconst (v := (-1)) hx hb dX11_wagon_57 (by decide) ?_
        exact en_i hx hb hr hlocks () (by simp [fWagon, wic1, wic2, wic3, wic4, wic5, wic6, c43]) trivial (hP.sub [] rfl) (hD.sub [] (by decide) rfl) hS (Nat.le_of_ble_eq_true rfl) (Nat.le_of_ble_eq_true rfl) dX11_wagon_58
      · refine lv_iload hx hb dX11_wagon_35 (lv_at hl 5 rfl) ?_
        refine lv_bipush (v := 10) hx hb dX11_wagon_37 (by decide) ?_
        refine lv_bipush (v := 90) hx hb dX11_wagon_39 (by decide) ?_
        refine cl_i (wr := [(xc2 cy xh xq), (xc3 cy xh xq), (xc4 cy xh xq), (xc5 cy xh xq), (xc6 cy xh xq), (xc7 cy xh xq), (xc8 cy xh xq), (xc9 cy xh xq), (xc15 cy xh xq), (xc16 cy xh xq), (xc17 cy xh xq), (xc18 cy xh xq), (xc19 cy xh xq), (xc20 cy xh xq), (xc39 cy xh xq), (xc0 cy xh xq), (xc1 cy xh xq), (xc13 cy xh xq), (xc14 cy xh xq)]) (va_runS (As := [.int xb, .int 10, .int 90]) (rest := []) ⟨hx, hb, hml, hown, hts⟩ (c_isWithin l D cy xb 10 90 _) (va_cwS 3 hts gX11_wagon_X11_isWithin rfl rfl rfl (by decide +kernel) ⟨(Nat.le_of_ble_eq_true rfl), (Nat.le_of_ble_eq_true rfl)⟩) (pre_S hKX hP hD [] rfl (by decide) rfl) rfl rfl hl.1 rfl (lv_room (Nat.le_of_ble_eq_true rfl)) dX11_wagon_41 ⟨(Nat.le_of_ble_eq_true rfl), (Nat.le_of_ble_eq_true rfl)⟩) hP hD hS hA [] [0, 1, 2, 3, 4, 5, 6, 7, 8, 9, 10, 11, 12, 13, 14, 15, 16, 17, 18] rfl rfl (by decide) (by decide) (fun u44 H locs _ hP hD hS => ?_)
        have hP : va_P D vwCl [(xc2 cy xh xq), (xc3 cy xh xq), (xc4 cy xh xq), (xc5 cy xh xq), (xc6 cy xh xq), (xc7 cy xh xq), (xc8 cy xh xq), (xc9 cy xh xq), (xc15 cy xh xq), (xc16 cy xh xq), (xc17 cy xh xq), (xc18 cy xh xq), (xc19 cy xh xq), (xc20 cy xh xq), (xc39 cy xh xq), (xc0 cy xh xq), (xc1 cy xh xq), (xc13 cy xh xq), (xc14 cy xh xq)] H := hP
        have hD : va_D A [(xc2 cy xh xq), (xc3 cy xh xq), (xc4 cy xh xq), (xc5 cy xh xq), (xc6 cy xh xq), (xc7 cy xh xq), (xc8 cy xh xq), (xc9 cy xh xq), (xc15 cy xh xq), (xc16 cy xh xq), (xc17 cy xh xq), (xc18 cy xh xq), (xc19 cy xh xq), (xc20 cy xh xq), (xc39 cy xh xq), (xc0 cy xh xq), (xc1 cy xh xq), (xc13 cy xh xq), (xc14 cy xh xq)] := hD
        refine lv_if_eq (tgt := 57) hx hb dX11_wagon_44 (by decide) (fun c45 => ?_) (fun c45 => ?_)
        · refine lv_iconst (v := (-1)) hx hb dX11_wagon_57 (by decide) ?_
          exact en_i hx hb hr hlocks () (by simp [fWagon, wic1, wic2, wic3, wic4, wic5, wic6, c43, c45]) trivial (hP.sub [] rfl) (hD.sub [] (by decide) rfl) hS (Nat.le_of_ble_eq_true rfl) (Nat.le_of_ble_eq_true rfl) dX11_wagon_58
        · refine lv_iload hx hb dX11_wagon_47 (lv_at hl 6 rfl) ?_
          refine lv_iconst (v := 0) hx hb dX11_wagon_49 (by decide) ?_
          refine lv_iconst (v := 3) hx hb dX11_wagon_50 (by decide) ?_
          refine cl_i (wr := [(xc2 cy xh xq), (xc3 cy xh xq), (xc4 cy xh xq), (xc5 cy xh xq), (xc6 cy xh xq), (xc7 cy xh xq), (xc8 cy xh xq), (xc9 cy xh xq), (xc15 cy xh xq), (xc16 cy xh xq), (xc17 cy xh xq), (xc18 cy xh xq), (xc19 cy xh xq), (xc20 cy xh xq), (xc39 cy xh xq), (xc0 cy xh xq), (xc1 cy xh xq), (xc13 cy xh xq), (xc14 cy xh xq)]) (va_runS (As := [.int xc, .int 0, .int 3]) (rest := []) ⟨hx, hb, hml, hown, hts⟩ (c_isWithin l D cy xc 0 3 _) (va_cwS 3 hts gX11_wagon_X11_isWithin rfl rfl rfl (by decide +kernel) ⟨(Nat.le_of_ble_eq_true rfl), (Nat.le_of_ble_eq_true rfl)⟩) (pre_S hKX hP hD [] rfl (by decide) rfl) rfl rfl hl.1 rfl (lv_room (Nat.le_of_ble_eq_true rfl)) dX11_wagon_51 ⟨(Nat.le_of_ble_eq_true rfl), (Nat.le_of_ble_eq_true rfl)⟩) hP hD hS hA [] [0, 1, 2, 3, 4, 5, 6, 7, 8, 9, 10, 11, 12, 13, 14, 15, 16, 17, 18] rfl rfl (by decide) (by decide) (fun u46 H locs _ hP hD hS => ?_)
          have hP : va_P D vwCl [(xc2 cy xh xq), (xc3 cy xh xq), (xc4 cy xh xq), (xc5 cy xh xq), (xc6 cy xh xq), (xc7 cy xh xq), (xc8 cy xh xq), (xc9 cy xh xq), (xc15 cy xh xq), (xc16 cy xh xq), (xc17 cy xh xq), (xc18 cy xh xq), (xc19 cy xh xq), (xc20 cy xh xq), (xc39 cy xh xq), (xc0 cy xh xq), (xc1 cy xh xq), (xc13 cy xh xq), (xc14 cy xh xq)] H := hP
          have hD : va_D A [(xc2 cy xh xq), (xc3 cy xh xq), (xc4 cy xh xq), (xc5 cy xh xq), (xc6 cy xh xq), (xc7 cy xh xq), (xc8 cy xh xq), (xc9 cy xh xq), (xc15 cy xh xq), (xc16 cy xh xq), (xc17 cy xh xq), (xc18 cy xh xq), (xc19 cy xh xq), (xc20 cy xh xq), (xc39 cy xh xq), (xc0 cy xh xq), (xc1 cy xh xq), (xc13 cy xh xq), (xc14 cy xh xq)] := hD
          refine lv_if_ne (tgt := 59) hx hb dX11_wagon_54 (by decide) (fun c47 => ?_) (fun c47 => ?_)
          · refine lv_aload hx hb dX11_wagon_59 (lv_at hl 0 rfl) ?_
            refine lv_iload_n hx hb dX11_wagon_61 rfl (lv_at hl 4 rfl) ?_
            refine lv_sipush (v := 200) hx hb dX11_wagon_62 (by decide) ?_
            refine cl_i (wr := [(xc2 cy xh xq), (xc3 cy xh xq), (xc4 cy xh xq), (xc5 cy xh xq), (xc6 cy xh xq), (xc7 cy xh xq), (xc8 cy xh xq), (xc9 cy xh xq), (xc17 cy xh xq), (xc18 cy xh xq), (xc19 cy xh xq), (xc20 cy xh xq), (xc39 cy xh xq), (xc0 cy xh xq), (xc1 cy xh xq), (xc13 cy xh xq), (xc14 cy xh xq)]) (va_runV (As := [.int xa, .int 200]) (rest := []) ⟨hx, hb, hml, hown, hts⟩ (c_hasRoom l D cy (xq 14) (xq 15) xa c43 _) (cwV 2 hts gX11_wagon_X5_hasRoom rfl rfl rfl (by decide +kernel) ⟨(Nat.le_of_ble_eq_true rfl), (Nat.le_of_ble_eq_true rfl)⟩) (pre_V hKX hP hD (ci := 5) (q0 := 8) rfl rfl [8, 9] rfl (by decide) rfl) rfl rfl hl.1 rfl (lv_room (Nat.le_of_ble_eq_true rfl)) dX11_wagon_65 ⟨(Nat.le_of_ble_eq_true rfl), (Nat.le_of_ble_eq_true rfl)⟩) hP hD hS hA [8, 9] [0, 1, 2, 3, 4, 5, 6, 7, 10, 11, 12, 13, 14, 15, 16, 17, 18] rfl rfl (by decide) (by decide) (fun u48 H locs _ hP hD hS => ?_)
            have hP : va_P D vwCl [(xc2 cy xh xq), (xc3 cy xh xq), (xc4 cy xh xq), (xc5 cy xh xq), (xc6 cy xh xq), (xc7 cy xh xq), (xc8 cy xh xq), (xc9 cy xh xq), (xc17 cy xh xq), (xc18 cy xh xq), (xc19 cy xh xq), (xc20 cy xh xq), (xc39 cy xh xq), (xc0 cy xh xq), (xc1 cy xh xq), (xc13 cy xh xq), (xc14 cy xh xq), ((xq 14), .inr (5, [.ref (xq 15), .int 0, .int 0])), ((xq 15), .inl (cy 6, 33, .inr (.inr (.inr (.inr (fun _ => none))))))] H := hP
            have hD : va_D A [(xc2 cy xh xq), (xc3 cy xh xq), (xc4 cy xh xq), (xc5 cy xh xq), (xc6 cy xh xq), (xc7 cy xh xq), (xc8 cy xh xq), (xc9 cy xh xq), (xc17 cy xh xq), (xc18 cy xh xq), (xc19 cy xh xq), (xc20 cy xh xq), (xc39 cy xh xq), (xc0 cy xh xq), (xc1 cy xh xq), (xc13 cy xh xq), (xc14 cy xh xq), ((xq 14), .inr (5, [.ref (xq 15), .int 0, .int 0])), ((xq 15), .inl (cy 6, 33, .inr (.inr (.inr (.inr (fun _ => none))))))] := hD
            refine lv_if_ne (tgt := 73) hx hb dX11_wagon_68 (by decide) (fun _ => ?_) (fun c9 => absurd c9 (by decide))
            refine va_new (ci := 10) (fs := [.int 0, .int 0, .int 0, .int 0, .int 0, .null, .int 0, .int 0, .int 0, .int 0, .int 0, .int 0]) (C := RX10) (T := TX10) (N := 12) hx hb hts iw_X11_wagon_X10 tyX10 tyX10_ok hown (hts (.classLink RX11 23 RX10) (by decide +kernel)) (hts (.instantiable RX10 12) (by decide +kernel)) (hts (.initialized RX10) (by decide +kernel)) hKX.1 hP hD hS hA rfl (fun j hj => by rcases (show j = 0 ∨ j = 1 ∨ j = 2 ∨ j = 3 ∨ j = 4 ∨ j = 5 ∨ j = 6 ∨ j = 7 ∨ j = 8 ∨ j = 9 ∨ j = 10 ∨ j = 11 by omega) with rfl | rfl | rfl | rfl | rfl | rfl | rfl | rfl | rfl | rfl | rfl | rfl <;> rfl) (Nat.le_of_ble_eq_true rfl) (Nat.le_of_ble_eq_true rfl) dX11_wagon_73 (fun q49 H hP hD hS => ?_)
            have hP : va_P D vwCl [(xc2 cy xh xq), (xc3 cy xh xq), (xc4 cy xh xq), (xc5 cy xh xq), (xc6 cy xh xq), (xc7 cy xh xq), (xc8 cy xh xq), (xc9 cy xh xq), (xc17 cy xh xq), (xc18 cy xh xq), (xc19 cy xh xq), (xc20 cy xh xq), (xc39 cy xh xq), (xc0 cy xh xq), (xc1 cy xh xq), (xc13 cy xh xq), (xc14 cy xh xq), ((xq 14), .inr (5, [.ref (xq 15), .int 0, .int 0])), ((xq 15), .inl (cy 6, 33, .inr (.inr (.inr (.inr (fun _ => none)))))), (q49, .inr (10, [.int 0, .int 0, .int 0, .int 0, .int 0, .null, .int 0, .int 0, .int 0, .int 0, .int 0, .int 0]))] H := hP
            have hD : va_D A [(xc2 cy xh xq), (xc3 cy xh xq), (xc4 cy xh xq), (xc5 cy xh xq), (xc6 cy xh xq), (xc7 cy xh xq), (xc8 cy xh xq), (xc9 cy xh xq), (xc17 cy xh xq), (xc18 cy xh xq), (xc19 cy xh xq), (xc20 cy xh xq), (xc39 cy xh xq), (xc0 cy xh xq), (xc1 cy xh xq), (xc13 cy xh xq), (xc14 cy xh xq), ((xq 14), .inr (5, [.ref (xq 15), .int 0, .int 0])), ((xq 15), .inl (cy 6, 33, .inr (.inr (.inr (.inr (fun _ => none)))))), (q49, .inr (10, [.int 0, .int 0, .int 0, .int 0, .int 0, .null, .int 0, .int 0, .int 0, .int 0, .int 0, .int 0]))] := hD
            refine lv_dup hx hb dX11_wagon_76 rfl ?_
            refine lv_aload_n hx hb dX11_wagon_77 rfl (lv_at hl 1 rfl) ?_
            refine va_get (D := D) (ci := 11) (v := .int 0) (C := RX11) (T := TX11) (N := 18) hx hb hts iw_X11_wagon_X11 hown hKX.1 hP 13 rfl rfl 9 (by decide) (hts (.fieldLink RX11 63 "TrainFerry" "wagonsCome" "I") (by decide +kernel)) (fun _ h9 => h9) rfl dX11_wagon_78 ?_
            refine lv_iload_n hx hb dX11_wagon_81 rfl (lv_at hl 2 rfl) ?_
            refine lv_iload_n hx hb dX11_wagon_82 rfl (lv_at hl 4 rfl) ?_
            refine lv_iload hx hb dX11_wagon_83 (lv_at hl 5 rfl) ?_
            refine lv_iload hx hb dX11_wagon_85 (lv_at hl 6 rfl) ?_
            refine cl_v (wr := [(xc2 cy xh xq), (xc3 cy xh xq), (xc4 cy xh xq), (xc5 cy xh xq), (xc6 cy xh xq), (xc7 cy xh xq), (xc8 cy xh xq), (xc9 cy xh xq), (xc17 cy xh xq), (xc18 cy xh xq), (xc19 cy xh xq), (xc20 cy xh xq), (xc39 cy xh xq), (xc0 cy xh xq), (xc1 cy xh xq), (xc13 cy xh xq), (xc14 cy xh xq), ((xq 14), .inr (5, [.ref (xq 15), .int 0, .int 0])), ((xq 15), .inl (cy 6, 33, .inr (.inr (.inr (.inr (fun _ => none))))))]) (va_runI (As := [.int 0, .int 1, .int xa, .int xb, .int xc]) (rest := [.ref q49]) ⟨hx, hb, hml, hown, hts⟩ (c_Wagon_init l D cy q49 0 1 xa xb xc _) (cwI 5 hts gX11_wagon_X10_init rfl rfl rfl (hts (.initialized RX10) (by decide +kernel)) (hts (.methodLink RX11 120 yX10_init) (by decide +kernel)) (hts (.instanceMethod yX10_init) (by decide +kernel)) rfl (by decide +kernel) ⟨(Nat.le_of_ble_eq_true rfl), (Nat.le_of_ble_eq_true rfl)⟩) (pre_S hKX hP hD [19] rfl (by decide) rfl) rfl rfl hl.1 rfl (lv_room (Nat.le_of_ble_eq_true rfl)) dX11_wagon_87 ⟨(Nat.le_of_ble_eq_true rfl), (Nat.le_of_ble_eq_true rfl)⟩) hP hD hS hA [19] [0, 1, 2, 3, 4, 5, 6, 7, 8, 9, 10, 11, 12, 13, 14, 15, 16, 17, 18] rfl rfl (by decide) (by decide) (fun u50 H locs _ hP hD hS => ?_)
            have hP : va_P D vwCl [(xc2 cy xh xq), (xc3 cy xh xq), (xc4 cy xh xq), (xc5 cy xh xq), (xc6 cy xh xq), (xc7 cy xh xq), (xc8 cy xh xq), (xc9 cy xh xq), (xc17 cy xh xq), (xc18 cy xh xq), (xc19 cy xh xq), (xc20 cy xh xq), (xc39 cy xh xq), (xc0 cy xh xq), (xc1 cy xh xq), (xc13 cy xh xq), (xc14 cy xh xq), ((xq 14), .inr (5, [.ref (xq 15), .int 0, .int 0])), ((xq 15), .inl (cy 6, 33, .inr (.inr (.inr (.inr (fun _ => none)))))), (q49, .inr (10, [.int 0, .int 1, .int xa, .int xb, .int xc, .ref (u50 0), .int 0, .int 0, .int 0, .int 0, .int 0, .int 0])), ((u50 0), .inl (cy 0, 4, .inl (fun _ => 0)))] H := hP
            have hD : va_D A [(xc2 cy xh xq), (xc3 cy xh xq), (xc4 cy xh xq), (xc5 cy xh xq), (xc6 cy xh xq), (xc7 cy xh xq), (xc8 cy xh xq), (xc9 cy xh xq), (xc17 cy xh xq), (xc18 cy xh xq), (xc19 cy xh xq), (xc20 cy xh xq), (xc39 cy xh xq), (xc0 cy xh xq), (xc1 cy xh xq), (xc13 cy xh xq), (xc14 cy xh xq), ((xq 14), .inr (5, [.ref (xq 15), .int 0, .int 0])), ((xq 15), .inl (cy 6, 33, .inr (.inr (.inr (.inr (fun _ => none)))))), (q49, .inr (10, [.int 0, .int 1, .int xa, .int xb, .int xc, .ref (u50 0), .int 0, .int 0, .int 0, .int 0, .int 0, .int 0])), ((u50 0), .inl (cy 0, 4, .inl (fun _ => 0)))] := hD
            refine lv_astore (lv' := [(7, .ref q49), (6, .ref (xq 14)), (0, .ref xh), (1, .int 1), (2, .int 0), (3, .int xa), (4, .int xb), (5, .int xc)]) hx hb dX11_wagon_90 hl (by decide) rfl (fun ls hl => ?_)
            refine lv_aload hx hb dX11_wagon_92 (lv_at hl 1 rfl) ?_
            refine lv_aload hx hb dX11_wagon_94 (lv_at hl 0 rfl) ?_
            refine cl_v (wr := [(xc2 cy xh xq), (xc3 cy xh xq), (xc4 cy xh xq), (xc5 cy xh xq), (xc6 cy xh xq), (xc7 cy xh xq), (xc8 cy xh xq), (xc9 cy xh xq), (xc17 cy xh xq), (xc18 cy xh xq), (xc19 cy xh xq), (xc20 cy xh xq), (xc39 cy xh xq), (xc0 cy xh xq), (xc1 cy xh xq), (xc13 cy xh xq), (xc14 cy xh xq), ((u50 0), .inl (cy 0, 4, .inl (fun _ => 0)))]) (va_runV (As := [.ref q49]) (rest := []) ⟨hx, hb, hml, hown, hts⟩ (c_Row_add l D cy (xq 14) (xq 15) q49 (u50 0) 0 1 xa xb xc _) (cwV 1 hts gX11_wagon_X5_add rfl rfl rfl (by decide +kernel) ⟨(Nat.le_of_ble_eq_true rfl), (Nat.le_of_ble_eq_true rfl)⟩) (pre_V hKX hP hD (ci := 5) (q0 := 17) rfl rfl [17, 18, 19] rfl (by decide) rfl) rfl rfl hl.1 rfl (lv_room (Nat.le_of_ble_eq_true rfl)) dX11_wagon_96 ⟨(Nat.le_of_ble_eq_true rfl), (Nat.le_of_ble_eq_true rfl)⟩) hP hD hS hA [17, 18, 19] [0, 1, 2, 3, 4, 5, 6, 7, 8, 9, 10, 11, 12, 13, 14, 15, 16, 20] rfl rfl (by decide) (by decide) (fun u51 H locs _ hP hD hS => ?_)
            have hP : va_P D vwCl [(xc2 cy xh xq), (xc3 cy xh xq), (xc4 cy xh xq), (xc5 cy xh xq), (xc6 cy xh xq), (xc7 cy xh xq), (xc8 cy xh xq), (xc9 cy xh xq), (xc17 cy xh xq), (xc18 cy xh xq), (xc19 cy xh xq), (xc20 cy xh xq), (xc39 cy xh xq), (xc0 cy xh xq), (xc1 cy xh xq), (xc13 cy xh xq), (xc14 cy xh xq), ((u50 0), .inl (cy 0, 4, .inl (fun _ => 0))), (q49, .inr (10, [.int 0, .int 1, .int xa, .int xb, .int xc, .ref (u50 0), .int 0, .int 0, .int 0, .int 0, .int 0, .int 0]))] H := hP
            have hD : va_D A [(xc2 cy xh xq), (xc3 cy xh xq), (xc4 cy xh xq), (xc5 cy xh xq), (xc6 cy xh xq), (xc7 cy xh xq), (xc8 cy xh xq), (xc9 cy xh xq), (xc17 cy xh xq), (xc18 cy xh xq), (xc19 cy xh xq), (xc20 cy xh xq), (xc39 cy xh xq), (xc0 cy xh xq), (xc1 cy xh xq), (xc13 cy xh xq), (xc14 cy xh xq), ((u50 0), .inl (cy 0, 4, .inl (fun _ => 0))), (q49, .inr (10, [.int 0, .int 1, .int xa, .int xb, .int xc, .ref (u50 0), .int 0, .int 0, .int 0, .int 0, .int 0, .int 0]))] := hD
            refine lv_aload hx hb dX11_wagon_99 (lv_at hl 0 rfl) ?_
            refine lv_iload_n hx hb dX11_wagon_101 rfl (lv_at hl 3 rfl) ?_
            refine lv_iload_n hx hb dX11_wagon_102 rfl (lv_at hl 4 rfl) ?_
            refine cl_v (wr := [(xc2 cy xh xq), (xc3 cy xh xq), (xc4 cy xh xq), (xc5 cy xh xq), (xc6 cy xh xq), (xc7 cy xh xq), (xc8 cy xh xq), (xc9 cy xh xq), (xc17 cy xh xq), (xc18 cy xh xq), (xc19 cy xh xq), (xc20 cy xh xq), (xc39 cy xh xq), (xc0 cy xh xq), (xc1 cy xh xq), (xc13 cy xh xq), (xc14 cy xh xq), ((u50 0), .inl (cy 0, 4, .inl (fun _ => 0)))]) (va_runV (As := [.int 1, .int 0]) (rest := []) ⟨hx, hb, hml, hown, hts⟩ (c_standAt l D cy q49 (u50 0) 0 1 xa xb xc 1 0 _) (cwV 2 hts gX11_wagon_X10_standAt rfl rfl rfl (by decide +kernel) ⟨(Nat.le_of_ble_eq_true rfl), (Nat.le_of_ble_eq_true rfl)⟩) (pre_V hKX hP hD (ci := 10) (q0 := 18) rfl rfl [18] rfl (by decide) rfl) rfl rfl hl.1 rfl (lv_room (Nat.le_of_ble_eq_true rfl)) dX11_wagon_103 ⟨(Nat.le_of_ble_eq_true rfl), (Nat.le_of_ble_eq_true rfl)⟩) hP hD hS hA [18] [0, 1, 2, 3, 4, 5, 6, 7, 8, 9, 10, 11, 12, 13, 14, 15, 16, 17] rfl rfl (by decide) (by decide) (fun u52 H locs _ hP hD hS => ?_)
            have hP : va_P D vwCl [(xc2 cy xh xq), (xc3 cy xh xq), (xc4 cy xh xq), (xc5 cy xh xq), (xc6 cy xh xq), (xc7 cy xh xq), (xc8 cy xh xq), (xc9 cy xh xq), (xc17 cy xh xq), (xc18 cy xh xq), (xc19 cy xh xq), (xc20 cy xh xq), (xc39 cy xh xq), (xc0 cy xh xq), (xc1 cy xh xq), (xc13 cy xh xq), (xc14 cy xh xq), ((u50 0), .inl (cy 0, 4, .inl (fun _ => 0))), (q49, .inr (10, [.int 0, .int 1, .int xa, .int xb, .int xc, .ref (u50 0), .int 0, .int 0, .int 0, .int 1, .int 0, .int 0]))] H := hP
            have hD : va_D A [(xc2 cy xh xq), (xc3 cy xh xq), (xc4 cy xh xq), (xc5 cy xh xq), (xc6 cy xh xq), (xc7 cy xh xq), (xc8 cy xh xq), (xc9 cy xh xq), (xc17 cy xh xq), (xc18 cy xh xq), (xc19 cy xh xq), (xc20 cy xh xq), (xc39 cy xh xq), (xc0 cy xh xq), (xc1 cy xh xq), (xc13 cy xh xq), (xc14 cy xh xq), ((u50 0), .inl (cy 0, 4, .inl (fun _ => 0))), (q49, .inr (10, [.int 0, .int 1, .int xa, .int xb, .int xc, .ref (u50 0), .int 0, .int 0, .int 0, .int 1, .int 0, .int 0]))] := hD
            refine lv_aload_n hx hb dX11_wagon_106 rfl (lv_at hl 2 rfl) ?_
            refine va_get (D := D) (ci := 11) (v := .ref (xq 38)) (C := RX11) (T := TX11) (N := 18) hx hb hts iw_X11_wagon_X11 hown hKX.1 hP 13 rfl rfl 2 (by decide) (hts (.fieldLink RX11 25 "TrainFerry" "wagons" "[LTrainFerry$Wagon;") (by decide +kernel)) (fun _ h9 => h9) rfl dX11_wagon_107 ?_
            refine lv_aload_n hx hb dX11_wagon_110 rfl (lv_at hl 2 rfl) ?_
            refine va_get (D := D) (ci := 11) (v := .int 0) (C := RX11) (T := TX11) (N := 18) hx hb hts iw_X11_wagon_X11 hown hKX.1 hP 13 rfl rfl 9 (by decide) (hts (.fieldLink RX11 63 "TrainFerry" "wagonsCome" "I") (by decide +kernel)) (fun _ h9 => h9) rfl dX11_wagon_111 ?_
            refine lv_aload hx hb dX11_wagon_114 (lv_at hl 0 rfl) ?_
            refine va_astq hx hb hKX.1 hP hD hS 12 6 18 10 rfl rfl rfl rfl (vind (by decide)) dX11_wagon_116 (fun H locs hP hD hS => ?_)
            have hP : va_P D vwCl [(xc2 cy xh xq), (xc3 cy xh xq), (xc4 cy xh xq), (xc5 cy xh xq), (xc6 cy xh xq), (xc7 cy xh xq), (xc8 cy xh xq), (xc9 cy xh xq), (xc17 cy xh xq), (xc18 cy xh xq), (xc19 cy xh xq), (xc20 cy xh xq), ((xq 38), .inl (cy 6, 100, .inr (.inr (.inr (.inr (va_up (fun _ => none) 0 (some q49))))))), (xc0 cy xh xq), (xc1 cy xh xq), (xc13 cy xh xq), (xc14 cy xh xq), ((u50 0), .inl (cy 0, 4, .inl (fun _ => 0))), (q49, .inr (10, [.int 0, .int 1, .int xa, .int xb, .int xc, .ref (u50 0), .int 0, .int 0, .int 0, .int 1, .int 0, .int 0]))] H := hP
            have hD : va_D A [(xc2 cy xh xq), (xc3 cy xh xq), (xc4 cy xh xq), (xc5 cy xh xq), (xc6 cy xh xq), (xc7 cy xh xq), (xc8 cy xh xq), (xc9 cy xh xq), (xc17 cy xh xq), (xc18 cy xh xq), (xc19 cy xh xq), (xc20 cy xh xq), ((xq 38), .inl (cy 6, 100, .inr (.inr (.inr (.inr (va_up (fun _ => none) 0 (some q49))))))), (xc0 cy xh xq), (xc1 cy xh xq), (xc13 cy xh xq), (xc14 cy xh xq), ((u50 0), .inl (cy 0, 4, .inl (fun _ => 0))), (q49, .inr (10, [.int 0, .int 1, .int xa, .int xb, .int xc, .ref (u50 0), .int 0, .int 0, .int 0, .int 1, .int 0, .int 0]))] := hD
            refine lv_aload_n hx hb dX11_wagon_117 rfl (lv_at hl 2 rfl) ?_
            refine lv_dup hx hb dX11_wagon_118 rfl ?_
            refine va_get (D := D) (ci := 11) (v := .int 0) (C := RX11) (T := TX11) (N := 18) hx hb hts iw_X11_wagon_X11 hown hKX.1 hP 13 rfl rfl 9 (by decide) (hts (.fieldLink RX11 63 "TrainFerry" "wagonsCome" "I") (by decide +kernel)) (fun _ h9 => h9) rfl dX11_wagon_119 ?_
            refine lv_iconst (v := 1) hx hb dX11_wagon_122 (by decide) ?_
            refine lv_iadd hx hb dX11_wagon_123 ?_
            refine lv_cst 1 (by decide) ?_
            refine va_put (D := D) (ci := 11) (v := .int 1) (ty := .int) (C := RX11) (T := TX11) (N := 18) hx hb hts iw_X11_wagon_X11 tyX11 tyX11_ok nmX11 hown hKX.1 hP hD hS 13 rfl rfl 9 (by decide) (hts (.fieldLink RX11 63 "TrainFerry" "wagonsCome" "I") (by decide +kernel)) (fun _ h9 => h9) rfl (by decide +kernel) rfl rfl (Nat.le_of_ble_eq_true rfl) dX11_wagon_124 (fun H locs hP hD hS => ?_)
            have hP : va_P D vwCl [(xc2 cy xh xq), (xc3 cy xh xq), (xc4 cy xh xq), (xc5 cy xh xq), (xc6 cy xh xq), (xc7 cy xh xq), (xc8 cy xh xq), (xc9 cy xh xq), (xc17 cy xh xq), (xc18 cy xh xq), (xc19 cy xh xq), (xc20 cy xh xq), ((xq 38), .inl (cy 6, 100, .inr (.inr (.inr (.inr (va_up (fun _ => none) 0 (some q49))))))), (xh, .inr (11, [.ref (xq 0), .ref (xq 23), .ref (xq 38), .ref (xq 39), .ref (xq 42), .ref (xq 43), .null, .null, .int 0, .int 1, .int 0, .int 0, .int 0, .int (-1), .int 0, .int 0, .int 5, .int 100])), (xc1 cy xh xq), (xc13 cy xh xq), (xc14 cy xh xq), ((u50 0), .inl (cy 0, 4, .inl (fun _ => 0))), (q49, .inr (10, [.int 0, .int 1, .int xa, .int xb, .int xc, .ref (u50 0), .int 0, .int 0, .int 0, .int 1, .int 0, .int 0]))] H := hP
            have hD : va_D A [(xc2 cy xh xq), (xc3 cy xh xq), (xc4 cy xh xq), (xc5 cy xh xq), (xc6 cy xh xq), (xc7 cy xh xq), (xc8 cy xh xq), (xc9 cy xh xq), (xc17 cy xh xq), (xc18 cy xh xq), (xc19 cy xh xq), (xc20 cy xh xq), ((xq 38), .inl (cy 6, 100, .inr (.inr (.inr (.inr (va_up (fun _ => none) 0 (some q49))))))), (xh, .inr (11, [.ref (xq 0), .ref (xq 23), .ref (xq 38), .ref (xq 39), .ref (xq 42), .ref (xq 43), .null, .null, .int 0, .int 1, .int 0, .int 0, .int 0, .int (-1), .int 0, .int 0, .int 5, .int 100])), (xc1 cy xh xq), (xc13 cy xh xq), (xc14 cy xh xq), ((u50 0), .inl (cy 0, 4, .inl (fun _ => 0))), (q49, .inr (10, [.int 0, .int 1, .int xa, .int xb, .int xc, .ref (u50 0), .int 0, .int 0, .int 0, .int 1, .int 0, .int 0]))] := hD
            refine lv_aload hx hb dX11_wagon_127 (lv_at hl 0 rfl) ?_
            refine va_get (D := D) (ci := 10) (v := .int 0) (C := RX10) (T := TX10) (N := 12) hx hb hts iw_X11_wagon_X10 hown hKX.1 hP 18 rfl rfl 0 (by decide) (hts (.fieldLink RX11 131 "TrainFerry$Wagon" "number" "I") (by decide +kernel)) (fun _ h9 => h9) rfl dX11_wagon_129 ?_
            exact en_i hx hb hr hlocks () (by simp [fWagon, wic1, wic2, wic3, wic4, wic5, wic6, c43, c45, c47]) trivial (hP.sub [] rfl) (hD.sub [] (by decide) rfl) hS (Nat.le_of_ble_eq_true rfl) (Nat.le_of_ble_eq_true rfl) dX11_wagon_132
          · refine lv_iconst (v := (-1)) hx hb dX11_wagon_57 (by decide) ?_
            exact en_i hx hb hr hlocks () (by simp [fWagon, wic1, wic2, wic3, wic4, wic5, wic6, c43, c45, c47]) trivial (hP.sub [] rfl) (hD.sub [] (by decide) rfl) hS (Nat.le_of_ble_eq_true rfl) (Nat.le_of_ble_eq_true rfl) dX11_wagon_58
    · refine lv_aload_n hx hb dX11_wagon_0 rfl (lv_at hl 0 rfl) ?_
      refine lv_iload_n hx hb dX11_wagon_1 rfl (lv_at hl 1 rfl) ?_
      refine lv_iload_n hx hb dX11_wagon_2 rfl (lv_at hl 2 rfl) ?_
      refine cl_q (wr := [(xc2 cy xh xq), (xc3 cy xh xq), (xc4 cy xh xq), (xc5 cy xh xq), (xc6 cy xh xq), (xc7 cy xh xq), (xc8 cy xh xq), (xc9 cy xh xq), (xc15 cy xh xq), (xc16 cy xh xq), (xc17 cy xh xq), (xc18 cy xh xq), (xc19 cy xh xq), (xc20 cy xh xq), (xc39 cy xh xq)]) (va_runV (As := [.int 1, .int 1]) (rest := []) ⟨hx, hb, hml, hown, hts⟩ (c_yardRow_11 l D cy xh xq _) (cwV 2 hts gX11_wagon_X11_yardRow rfl rfl rfl (by decide +kernel) ⟨(Nat.le_of_ble_eq_true rfl), (Nat.le_of_ble_eq_true rfl)⟩) (pre_V hKX hP hD (ci := 11) (q0 := 0) rfl rfl [0, 1, 10, 11] rfl (by decide) rfl) rfl rfl hl.1 rfl (lv_room (Nat.le_of_ble_eq_true rfl)) dX11_wagon_3 ⟨(Nat.le_of_ble_eq_true rfl), (Nat.le_of_ble_eq_true rfl)⟩) hP hD hS hA [0, 1, 10, 11] [2, 3, 4, 5, 6, 7, 8, 9, 12, 13, 14, 15, 16, 17, 18] rfl rfl (by decide) (by decide) (fun u53 H locs _ hP hD hS => ?_)
      have hP : va_P D vwCl [(xc2 cy xh xq), (xc3 cy xh xq), (xc4 cy xh xq), (xc5 cy xh xq), (xc6 cy xh xq), (xc7 cy xh xq), (xc8 cy xh xq), (xc9 cy xh xq), (xc15 cy xh xq), (xc16 cy xh xq), (xc17 cy xh xq), (xc18 cy xh xq), (xc19 cy xh xq), (xc20 cy xh xq), (xc39 cy xh xq), (xc0 cy xh xq), (xc1 cy xh xq), (xc13 cy xh xq), (xc14 cy xh xq)] H := hP
      have hD : va_D A [(xc2 cy xh xq), (xc3 cy xh xq), (xc4 cy xh xq), (xc5 cy xh xq), (xc6 cy xh xq), (xc7 cy xh xq), (xc8 cy xh xq), (xc9 cy xh xq), (xc15 cy xh xq), (xc16 cy xh xq), (xc17 cy xh xq), (xc18 cy xh xq), (xc19 cy xh xq), (xc20 cy xh xq), (xc39 cy xh xq), (xc0 cy xh xq), (xc1 cy xh xq), (xc13 cy xh xq), (xc14 cy xh xq)] := hD
      refine lv_csv (.ref (xq 16)) rfl ?_
      refine lv_astore (lv' := [(6, .ref (xq 16)), (0, .ref xh), (1, .int 1), (2, .int 1), (3, .int xa), (4, .int xb), (5, .int xc)]) hx hb dX11_wagon_6 hl (by decide) rfl (fun ls hl => ?_)
      refine lv_aload hx hb dX11_wagon_8 (lv_at hl 0 rfl) ?_
      refine lv_ifnull hx hb dX11_wagon_10 ?_
      refine lv_aload_n hx hb dX11_wagon_13 rfl (lv_at hl 1 rfl) ?_
      refine va_get (D := D) (ci := 11) (v := .int 0) (C := RX11) (T := TX11) (N := 18) hx hb hts iw_X11_wagon_X11 hown hKX.1 hP 15 rfl rfl 9 (by decide) (hts (.fieldLink RX11 63 "TrainFerry" "wagonsCome" "I") (by decide +kernel)) (fun _ h9 => h9) rfl dX11_wagon_14 ?_
      refine lv_bipush (v := 100) hx hb dX11_wagon_17 (by decide) ?_
      refine lv_icmp_lt (tgt := 24) hx hb dX11_wagon_19 (by decide) (fun _ => ?_) (fun c9 => absurd (by decide) c9)
      refine lv_iload_n hx hb dX11_wagon_24 rfl (lv_at hl 4 rfl) ?_
      refine lv_bipush (v := 6) hx hb dX11_wagon_25 (by decide) ?_
      refine lv_bipush (v := 26) hx hb dX11_wagon_27 (by decide) ?_
      refine cl_i (wr := [(xc2 cy xh xq), (xc3 cy xh xq), (xc4 cy xh xq), (xc5 cy xh xq), (xc6 cy xh xq), (xc7 cy xh xq), (xc8 cy xh xq), (xc9 cy xh xq), (xc15 cy xh xq), (xc16 cy xh xq), (xc17 cy xh xq), (xc18 cy xh xq), (xc19 cy xh xq), (xc20 cy xh xq), (xc39 cy xh xq), (xc0 cy xh xq), (xc1 cy xh xq), (xc13 cy xh xq), (xc14 cy xh xq)]) (va_runS (As := [.int xa, .int 6, .int 26]) (rest := []) ⟨hx, hb, hml, hown, hts⟩ (c_isWithin l D cy xa 6 26 _) (va_cwS 3 hts gX11_wagon_X11_isWithin rfl rfl rfl (by decide +kernel) ⟨(Nat.le_of_ble_eq_true rfl), (Nat.le_of_ble_eq_true rfl)⟩) (pre_S hKX hP hD [] rfl (by decide) rfl) rfl rfl hl.1 rfl (lv_room (Nat.le_of_ble_eq_true rfl)) dX11_wagon_29 ⟨(Nat.le_of_ble_eq_true rfl), (Nat.le_of_ble_eq_true rfl)⟩) hP hD hS hA [] [0, 1, 2, 3, 4, 5, 6, 7, 8, 9, 10, 11, 12, 13, 14, 15, 16, 17, 18] rfl rfl (by decide) (by decide) (fun u54 H locs _ hP hD hS => ?_)
      have hP : va_P D vwCl [(xc2 cy xh xq), (xc3 cy xh xq), (xc4 cy xh xq), (xc5 cy xh xq), (xc6 cy xh xq), (xc7 cy xh xq), (xc8 cy xh xq), (xc9 cy xh xq), (xc15 cy xh xq), (xc16 cy xh xq), (xc17 cy xh xq), (xc18 cy xh xq), (xc19 cy xh xq), (xc20 cy xh xq), (xc39 cy xh xq), (xc0 cy xh xq), (xc1 cy xh xq), (xc13 cy xh xq), (xc14 cy xh xq)] H := hP
      have hD : va_D A [(xc2 cy xh xq), (xc3 cy xh xq), (xc4 cy xh xq), (xc5 cy xh xq), (xc6 cy xh xq), (xc7 cy xh xq), (xc8 cy xh xq), (xc9 cy xh xq), (xc15 cy xh xq), (xc16 cy xh xq), (xc17 cy xh xq), (xc18 cy xh xq), (xc19 cy xh xq), (xc20 cy xh xq), (xc39 cy xh xq), (xc0 cy xh xq), (xc1 cy xh xq), (xc13 cy xh xq), (xc14 cy xh xq)] := hD
      refine lv_if_eq (tgt := 57) hx hb dX11_wagon_32 (by decide) (fun c55 => ?_) (fun c55 => ?_)
      · refine lv_iconst (v := (-1)) hx hb dX11_wagon_57 (by decide) ?_
        exact en_i hx hb hr hlocks () (by simp [fWagon, wic1, wic2, wic3, wic4, wic5, wic6, c55]) trivial (hP.sub [] rfl) (hD.sub [] (by decide) rfl) hS (Nat.le_of_ble_eq_true rfl) (Nat.le_of_ble_eq_true rfl) dX11_wagon_58
      · refine lv_iload hx hb dX11_wagon_35 (lv_at hl 5 rfl) ?_
        refine lv_bipush (v := 10) hx hb dX11_wagon_37 (by decide) ?_
        refine lv_bipush (v := 90) hx hb dX11_wagon_39 (by decide) ?_
        refine cl_i (wr := [(xc2 cy xh xq), (xc3 cy xh xq), (xc4 cy xh xq), (xc5 cy xh xq), (xc6 cy xh xq), (xc7 cy xh xq), (xc8 cy xh xq), (xc9 cy xh xq), (xc15 cy xh xq), (xc16 cy xh xq), (xc17 cy xh xq), (xc18 cy xh xq), (xc19 cy xh xq), (xc20 cy xh xq), (xc39 cy xh xq), (xc0 cy xh xq), (xc1 cy xh xq), (xc13 cy xh xq), (xc14 cy xh xq)]) (va_runS (As := [.int xb, .int 10, .int 90]) (rest := []) ⟨hx, hb, hml, hown, hts⟩ (c_isWithin l D cy xb 10 90 _) (va_cwS 3 hts gX11_wagon_X11_isWithin rfl rfl rfl (by decide +kernel) ⟨(Nat.le_of_ble_eq_true rfl), (Nat.le_of_ble_eq_true rfl)⟩) (pre_S hKX hP hD [] rfl (by decide) rfl) rfl rfl hl.1 rfl (lv_room (Nat.le_of_ble_eq_true rfl)) dX11_wagon_41 ⟨(Nat.le_of_ble_eq_true rfl), (Nat.le_of_ble_eq_true rfl)⟩) hP hD hS hA [] [0, 1, 2, 3, 4, 5, 6, 7, 8, 9, 10, 11, 12, 13, 14, 15, 16, 17, 18] rfl rfl (by decide) (by decide) (fun u56 H locs _ hP hD hS => ?_)
        have hP : va_P D vwCl [(xc2 cy xh xq), (xc3 cy xh xq), (xc4 cy xh xq), (xc5 cy xh xq), (xc6 cy xh xq), (xc7 cy xh xq), (xc8 cy xh xq), (xc9 cy xh xq), (xc15 cy xh xq), (xc16 cy xh xq), (xc17 cy xh xq), (xc18 cy xh xq), (xc19 cy xh xq), (xc20 cy xh xq), (xc39 cy xh xq), (xc0 cy xh xq), (xc1 cy xh xq), (xc13 cy xh xq), (xc14 cy xh xq)] H := hP
        have hD : va_D A [(xc2 cy xh xq), (xc3 cy xh xq), (xc4 cy xh xq), (xc5 cy xh xq), (xc6 cy xh xq), (xc7 cy xh xq), (xc8 cy xh xq), (xc9 cy xh xq), (xc15 cy xh xq), (xc16 cy xh xq), (xc17 cy xh xq), (xc18 cy xh xq), (xc19 cy xh xq), (xc20 cy xh xq), (xc39 cy xh xq), (xc0 cy xh xq), (xc1 cy xh xq), (xc13 cy xh xq), (xc14 cy xh xq)] := hD
        refine lv_if_eq (tgt := 57) hx hb dX11_wagon_44 (by decide) (fun c57 => ?_) (fun c57 => ?_)
        · refine lv_iconst (v := (-1)) hx hb dX11_wagon_57 (by decide) ?_
          exact en_i hx hb hr hlocks () (by simp [fWagon, wic1, wic2, wic3, wic4, wic5, wic6, c55, c57]) trivial (hP.sub [] rfl) (hD.sub [] (by decide) rfl) hS (Nat.le_of_ble_eq_true rfl) (Nat.le_of_ble_eq_true rfl) dX11_wagon_58
        · refine lv_iload hx hb dX11_wagon_47 (lv_at hl 6 rfl) ?_
          refine lv_iconst (v := 0) hx hb dX11_wagon_49 (by decide) ?_
          refine lv_iconst (v := 3) hx hb dX11_wagon_50 (by decide) ?_
          refine cl_i (wr := [(xc2 cy xh xq), (xc3 cy xh xq), (xc4 cy xh xq), (xc5 cy xh xq), (xc6 cy xh xq), (xc7 cy xh xq), (xc8 cy xh xq), (xc9 cy xh xq), (xc15 cy xh xq), (xc16 cy xh xq), (xc17 cy xh xq), (xc18 cy xh xq), (xc19 cy xh xq), (xc20 cy xh xq), (xc39 cy xh xq), (xc0 cy xh xq), (xc1 cy xh xq), (xc13 cy xh xq), (xc14 cy xh xq)]) (va_runS (As := [.int xc, .int 0, .int 3]) (rest := []) ⟨hx, hb, hml, hown, hts⟩ (c_isWithin l D cy xc 0 3 _) (va_cwS 3 hts gX11_wagon_X11_isWithin rfl rfl rfl (by decide +kernel) ⟨(Nat.le_of_ble_eq_true rfl), (Nat.le_of_ble_eq_true rfl)⟩) (pre_S hKX hP hD [] rfl (by decide) rfl) rfl rfl hl.1 rfl (lv_room (Nat.le_of_ble_eq_true rfl)) dX11_wagon_51 ⟨(Nat.le_of_ble_eq_true rfl), (Nat.le_of_ble_eq_true rfl)⟩) hP hD hS hA [] [0, 1, 2, 3, 4, 5, 6, 7, 8, 9, 10, 11, 12, 13, 14, 15, 16, 17, 18] rfl rfl (by decide) (by decide) (fun u58 H locs _ hP hD hS => ?_)
          have hP : va_P D vwCl [(xc2 cy xh xq), (xc3 cy xh xq), (xc4 cy xh xq), (xc5 cy xh xq), (xc6 cy xh xq), (xc7 cy xh xq), (xc8 cy xh xq), (xc9 cy xh xq), (xc15 cy xh xq), (xc16 cy xh xq), (xc17 cy xh xq), (xc18 cy xh xq), (xc19 cy xh xq), (xc20 cy xh xq), (xc39 cy xh xq), (xc0 cy xh xq), (xc1 cy xh xq), (xc13 cy xh xq), (xc14 cy xh xq)] H := hP
          have hD : va_D A [(xc2 cy xh xq), (xc3 cy xh xq), (xc4 cy xh xq), (xc5 cy xh xq), (xc6 cy xh xq), (xc7 cy xh xq), (xc8 cy xh xq), (xc9 cy xh xq), (xc15 cy xh xq), (xc16 cy xh xq), (xc17 cy xh xq), (xc18 cy xh xq), (xc19 cy xh xq), (xc20 cy xh xq), (xc39 cy xh xq), (xc0 cy xh xq), (xc1 cy xh xq), (xc13 cy xh xq), (xc14 cy xh xq)] := hD
          refine lv_if_ne (tgt := 59) hx hb dX11_wagon_54 (by decide) (fun c59 => ?_) (fun c59 => ?_)
          · refine lv_aload hx hb dX11_wagon_59 (lv_at hl 0 rfl) ?_
            refine lv_iload_n hx hb dX11_wagon_61 rfl (lv_at hl 4 rfl) ?_
            refine lv_sipush (v := 200) hx hb dX11_wagon_62 (by decide) ?_
            refine cl_i (wr := [(xc2 cy xh xq), (xc3 cy xh xq), (xc4 cy xh xq), (xc5 cy xh xq), (xc6 cy xh xq), (xc7 cy xh xq), (xc8 cy xh xq), (xc9 cy xh xq), (xc15 cy xh xq), (xc16 cy xh xq), (xc19 cy xh xq), (xc20 cy xh xq), (xc39 cy xh xq), (xc0 cy xh xq), (xc1 cy xh xq), (xc13 cy xh xq), (xc14 cy xh xq)]) (va_runV (As := [.int xa, .int 200]) (rest := []) ⟨hx, hb, hml, hown, hts⟩ (c_hasRoom l D cy (xq 16) (xq 17) xa c55 _) (cwV 2 hts gX11_wagon_X5_hasRoom rfl rfl rfl (by decide +kernel) ⟨(Nat.le_of_ble_eq_true rfl), (Nat.le_of_ble_eq_true rfl)⟩) (pre_V hKX hP hD (ci := 5) (q0 := 10) rfl rfl [10, 11] rfl (by decide) rfl) rfl rfl hl.1 rfl (lv_room (Nat.le_of_ble_eq_true rfl)) dX11_wagon_65 ⟨(Nat.le_of_ble_eq_true rfl), (Nat.le_of_ble_eq_true rfl)⟩) hP hD hS hA [10, 11] [0, 1, 2, 3, 4, 5, 6, 7, 8, 9, 12, 13, 14, 15, 16, 17, 18] rfl rfl (by decide) (by decide) (fun u60 H locs _ hP hD hS => ?_)
            have hP : va_P D vwCl [(xc2 cy xh xq), (xc3 cy xh xq), (xc4 cy xh xq), (xc5 cy xh xq), (xc6 cy xh xq), (xc7 cy xh xq), (xc8 cy xh xq), (xc9 cy xh xq), (xc15 cy xh xq), (xc16 cy xh xq), (xc19 cy xh xq), (xc20 cy xh xq), (xc39 cy xh xq), (xc0 cy xh xq), (xc1 cy xh xq), (xc13 cy xh xq), (xc14 cy xh xq), ((xq 16), .inr (5, [.ref (xq 17), .int 0, .int 0])), ((xq 17), .inl (cy 6, 33, .inr (.inr (.inr (.inr (fun _ => none))))))] H := hP
            have hD : va_D A [(xc2 cy xh xq), (xc3 cy xh xq), (xc4 cy xh xq), (xc5 cy xh xq), (xc6 cy xh xq), (xc7 cy xh xq), (xc8 cy xh xq), (xc9 cy xh xq), (xc15 cy xh xq), (xc16 cy xh xq), (xc19 cy xh xq), (xc20 cy xh xq), (xc39 cy xh xq), (xc0 cy xh xq), (xc1 cy xh xq), (xc13 cy xh xq), (xc14 cy xh xq), ((xq 16), .inr (5, [.ref (xq 17), .int 0, .int 0])), ((xq 17), .inl (cy 6, 33, .inr (.inr (.inr (.inr (fun _ => none))))))] := hD
            refine lv_if_ne (tgt := 73) hx hb dX11_wagon_68 (by decide) (fun _ => ?_) (fun c9 => absurd c9 (by decide))
            refine va_new (ci := 10) (fs := [.int 0, .int 0, .int 0, .int 0, .int 0, .null, .int 0, .int 0, .int 0, .int 0, .int 0, .int 0]) (C := RX10) (T := TX10) (N := 12) hx hb hts iw_X11_wagon_X10 tyX10 tyX10_ok hown (hts (.classLink RX11 23 RX10) (by decide +kernel)) (hts (.instantiable RX10 12) (by decide +kernel)) (hts (.initialized RX10) (by decide +kernel)) hKX.1 hP hD hS hA rfl (fun j hj => by rcases (show j = 0 ∨ j = 1 ∨ j = 2 ∨ j = 3 ∨ j = 4 ∨ j = 5 ∨ j = 6 ∨ j = 7 ∨ j = 8 ∨ j = 9 ∨ j = 10 ∨ j = 11 by omega) with rfl | rfl | rfl | rfl | rfl | rfl | rfl | rfl | rfl | rfl | rfl | rfl <;> rfl) (Nat.le_of_ble_eq_true rfl) (Nat.le_of_ble_eq_true rfl) dX11_wagon_73 (fun q61 H hP hD hS => ?_)
            have hP : va_P D vwCl [(xc2 cy xh xq), (xc3 cy xh xq), (xc4 cy xh xq), (xc5 cy xh xq), (xc6 cy xh xq), (xc7 cy xh xq), (xc8 cy xh xq), (xc9 cy xh xq), (xc15 cy xh xq), (xc16 cy xh xq), (xc19 cy xh xq), (xc20 cy xh xq), (xc39 cy xh xq), (xc0 cy xh xq), (xc1 cy xh xq), (xc13 cy xh xq), (xc14 cy xh xq), ((xq 16), .inr (5, [.ref (xq 17), .int 0, .int 0])), ((xq 17), .inl (cy 6, 33, .inr (.inr (.inr (.inr (fun _ => none)))))), (q61, .inr (10, [.int 0, .int 0, .int 0, .int 0, .int 0, .null, .int 0, .int 0, .int 0, .int 0, .int 0, .int 0]))] H := hP
            have hD : va_D A [(xc2 cy xh xq), (xc3 cy xh xq), (xc4 cy xh xq), (xc5 cy xh xq), (xc6 cy xh xq), (xc7 cy xh xq), (xc8 cy xh xq), (xc9 cy xh xq), (xc15 cy xh xq), (xc16 cy xh xq), (xc19 cy xh xq), (xc20 cy xh xq), (xc39 cy xh xq), (xc0 cy xh xq), (xc1 cy xh xq), (xc13 cy xh xq), (xc14 cy xh xq), ((xq 16), .inr (5, [.ref (xq 17), .int 0, .int 0])), ((xq 17), .inl (cy 6, 33, .inr (.inr (.inr (.inr (fun _ => none)))))), (q61, .inr (10, [.int 0, .int 0, .int 0, .int 0, .int 0, .null, .int 0, .int 0, .int 0, .int 0, .int 0, .int 0]))] := hD
            refine lv_dup hx hb dX11_wagon_76 rfl ?_
            refine lv_aload_n hx hb dX11_wagon_77 rfl (lv_at hl 1 rfl) ?_
            refine va_get (D := D) (ci := 11) (v := .int 0) (C := RX11) (T := TX11) (N := 18) hx hb hts iw_X11_wagon_X11 hown hKX.1 hP 13 rfl rfl 9 (by decide) (hts (.fieldLink RX11 63 "TrainFerry" "wagonsCome" "I") (by decide +kernel)) (fun _ h9 => h9) rfl dX11_wagon_78 ?_
            refine lv_iload_n hx hb dX11_wagon_81 rfl (lv_at hl 2 rfl) ?_
            refine lv_iload_n hx hb dX11_wagon_82 rfl (lv_at hl 4 rfl) ?_
            refine lv_iload hx hb dX11_wagon_83 (lv_at hl 5 rfl) ?_
            refine lv_iload hx hb dX11_wagon_85 (lv_at hl 6 rfl) ?_
            refine cl_v (wr := [(xc2 cy xh xq), (xc3 cy xh xq), (xc4 cy xh xq), (xc5 cy xh xq), (xc6 cy xh xq), (xc7 cy xh xq), (xc8 cy xh xq), (xc9 cy xh xq), (xc15 cy xh xq), (xc16 cy xh xq), (xc19 cy xh xq), (xc20 cy xh xq), (xc39 cy xh xq), (xc0 cy xh xq), (xc1 cy xh xq), (xc13 cy xh xq), (xc14 cy xh xq), ((xq 16), .inr (5, [.ref (xq 17), .int 0, .int 0])), ((xq 17), .inl (cy 6, 33, .inr (.inr (.inr (.inr (fun _ => none))))))]) (va_runI (As := [.int 0, .int 1, .int xa, .int xb, .int xc]) (rest := [.ref q61]) ⟨hx, hb, hml, hown, hts⟩ (c_Wagon_init l D cy q61 0 1 xa xb xc _) (cwI 5 hts gX11_wagon_X10_init rfl rfl rfl (hts (.initialized RX10) (by decide +kernel)) (hts (.methodLink RX11 120 yX10_init) (by decide +kernel)) (hts (.instanceMethod yX10_init) (by decide +kernel)) rfl (by decide +kernel) ⟨(Nat.le_of_ble_eq_true rfl), (Nat.le_of_ble_eq_true rfl)⟩) (pre_S hKX hP hD [19] rfl (by decide) rfl) rfl rfl hl.1 rfl (lv_room (Nat.le_of_ble_eq_true rfl)) dX11_wagon_87 ⟨(Nat.le_of_ble_eq_true rfl), (Nat.le_of_ble_eq_true rfl)⟩) hP hD hS hA [19] [0, 1, 2, 3, 4, 5, 6, 7, 8, 9, 10, 11, 12, 13, 14, 15, 16, 17, 18] rfl rfl (by decide) (by decide) (fun u62 H locs _ hP hD hS => ?_)
            have hP : va_P D vwCl [(xc2 cy xh xq), (xc3 cy xh xq), (xc4 cy xh xq), (xc5 cy xh xq), (xc6 cy xh xq), (xc7 cy xh xq), (xc8 cy xh xq), (xc9 cy xh xq), (xc15 cy xh xq), (xc16 cy xh xq), (xc19 cy xh xq), (xc20 cy xh xq), (xc39 cy xh xq), (xc0 cy xh xq), (xc1 cy xh xq), (xc13 cy xh xq), (xc14 cy xh xq), ((xq 16), .inr (5, [.ref (xq 17), .int 0, .int 0])), ((xq 17), .inl (cy 6, 33, .inr (.inr (.inr (.inr (fun _ => none)))))), (q61, .inr (10, [.int 0, .int 1, .int xa, .int xb, .int xc, .ref (u62 0), .int 0, .int 0, .int 0, .int 0, .int 0, .int 0])), ((u62 0), .inl (cy 0, 4, .inl (fun _ => 0)))] H := hP
            have hD : va_D A [(xc2 cy xh xq), (xc3 cy xh xq), (xc4 cy xh xq), (xc5 cy xh xq), (xc6 cy xh xq), (xc7 cy xh xq), (xc8 cy xh xq), (xc9 cy xh xq), (xc15 cy xh xq), (xc16 cy xh xq), (xc19 cy xh xq), (xc20 cy xh xq), (xc39 cy xh xq), (xc0 cy xh xq), (xc1 cy xh xq), (xc13 cy xh xq), (xc14 cy xh xq), ((xq 16), .inr (5, [.ref (xq 17), .int 0, .int 0])), ((xq 17), .inl (cy 6, 33, .inr (.inr (.inr (.inr (fun _ => none)))))), (q61, .inr (10, [.int 0, .int 1, .int xa, .int xb, .int xc, .ref (u62 0), .int 0, .int 0, .int 0, .int 0, .int 0, .int 0])), ((u62 0), .inl (cy 0, 4, .inl (fun _ => 0)))] := hD
            refine lv_astore (lv' := [(7, .ref q61), (6, .ref (xq 16)), (0, .ref xh), (1, .int 1), (2, .int 1), (3, .int xa), (4, .int xb), (5, .int xc)]) hx hb dX11_wagon_90 hl (by decide) rfl (fun ls hl => ?_)
            refine lv_aload hx hb dX11_wagon_92 (lv_at hl 1 rfl) ?_
            refine lv_aload hx hb dX11_wagon_94 (lv_at hl 0 rfl) ?_
            refine cl_v (wr := [(xc2 cy xh xq), (xc3 cy xh xq), (xc4 cy xh xq), (xc5 cy xh xq), (xc6 cy xh xq), (xc7 cy xh xq), (xc8 cy xh xq), (xc9 cy xh xq), (xc15 cy xh xq), (xc16 cy xh xq), (xc19 cy xh xq), (xc20 cy xh xq), (xc39 cy xh xq), (xc0 cy xh xq), (xc1 cy xh xq), (xc13 cy xh xq), (xc14 cy xh xq), ((u62 0), .inl (cy 0, 4, .inl (fun _ => 0)))]) (va_runV (As := [.ref q61]) (rest := []) ⟨hx, hb, hml, hown, hts⟩ (c_Row_add l D cy (xq 16) (xq 17) q61 (u62 0) 0 1 xa xb xc _) (cwV 1 hts gX11_wagon_X5_add rfl rfl rfl (by decide +kernel) ⟨(Nat.le_of_ble_eq_true rfl), (Nat.le_of_ble_eq_true rfl)⟩) (pre_V hKX hP hD (ci := 5) (q0 := 17) rfl rfl [17, 18, 19] rfl (by decide) rfl) rfl rfl hl.1 rfl (lv_room (Nat.le_of_ble_eq_true rfl)) dX11_wagon_96 ⟨(Nat.le_of_ble_eq_true rfl), (Nat.le_of_ble_eq_true rfl)⟩) hP hD hS hA [17, 18, 19] [0, 1, 2, 3, 4, 5, 6, 7, 8, 9, 10, 11, 12, 13, 14, 15, 16, 20] rfl rfl (by decide) (by decide) (fun u63 H locs _ hP hD hS => ?_)
            have hP : va_P D vwCl [(xc2 cy xh xq), (xc3 cy xh xq), (xc4 cy xh xq), (xc5 cy xh xq), (xc6 cy xh xq), (xc7 cy xh xq), (xc8 cy xh xq), (xc9 cy xh xq), (xc15 cy xh xq), (xc16 cy xh xq), (xc19 cy xh xq), (xc20 cy xh xq), (xc39 cy xh xq), (xc0 cy xh xq), (xc1 cy xh xq), (xc13 cy xh xq), (xc14 cy xh xq), ((u62 0), .inl (cy 0, 4, .inl (fun _ => 0))), (q61, .inr (10, [.int 0, .int 1, .int xa, .int xb, .int xc, .ref (u62 0), .int 0, .int 0, .int 0, .int 0, .int 0, .int 0]))] H := hP
            have hD : va_D A [(xc2 cy xh xq), (xc3 cy xh xq), (xc4 cy xh xq), (xc5 cy xh xq), (xc6 cy xh xq), (xc7 cy xh xq), (xc8 cy xh xq), (xc9 cy xh xq), (xc15 cy xh xq), (xc16 cy xh xq), (xc19 cy xh xq), (xc20 cy xh xq), (xc39 cy xh xq), (xc0 cy xh xq), (xc1 cy xh xq), (xc13 cy xh xq), (xc14 cy xh xq), ((u62 0), .inl (cy 0, 4, .inl (fun _ => 0))), (q61, .inr (10, [.int 0, .int 1, .int xa, .int xb, .int xc, .ref (u62 0), .int 0, .int 0, .int 0, .int 0, .int 0, .int 0]))] := hD
            refine lv_aload hx hb dX11_wagon_99 (lv_at hl 0 rfl) ?_
            refine lv_iload_n hx hb dX11_wagon_101 rfl (lv_at hl 3 rfl) ?_
            refine lv_iload_n hx hb dX11_wagon_102 rfl (lv_at hl 4 rfl) ?_
            refine cl_v (wr := [(xc2 cy xh xq), (xc3 cy xh xq), (xc4 cy xh xq), (xc5 cy xh xq), (xc6 cy xh xq), (xc7 cy xh xq), (xc8 cy xh xq), (xc9 cy xh xq), (xc15 cy xh xq), (xc16 cy xh xq), (xc19 cy xh xq), (xc20 cy xh xq), (xc39 cy xh xq), (xc0 cy xh xq), (xc1 cy xh xq), (xc13 cy xh xq), (xc14 cy xh xq), ((u62 0), .inl (cy 0, 4, .inl (fun _ => 0)))]) (va_runV (As := [.int 1, .int 1]) (rest := []) ⟨hx, hb, hml, hown, hts⟩ (c_standAt l D cy q61 (u62 0) 0 1 xa xb xc 1 1 _) (cwV 2 hts gX11_wagon_X10_standAt rfl rfl rfl (by decide +kernel) ⟨(Nat.le_of_ble_eq_true rfl), (Nat.le_of_ble_eq_true rfl)⟩) (pre_V hKX hP hD (ci := 10) (q0 := 18) rfl rfl [18] rfl (by decide) rfl) rfl rfl hl.1 rfl (lv_room (Nat.le_of_ble_eq_true rfl)) dX11_wagon_103 ⟨(Nat.le_of_ble_eq_true rfl), (Nat.le_of_ble_eq_true rfl)⟩) hP hD hS hA [18] [0, 1, 2, 3, 4, 5, 6, 7, 8, 9, 10, 11, 12, 13, 14, 15, 16, 17] rfl rfl (by decide) (by decide) (fun u64 H locs _ hP hD hS => ?_)
            have hP : va_P D vwCl [(xc2 cy xh xq), (xc3 cy xh xq), (xc4 cy xh xq), (xc5 cy xh xq), (xc6 cy xh xq), (xc7 cy xh xq), (xc8 cy xh xq), (xc9 cy xh xq), (xc15 cy xh xq), (xc16 cy xh xq), (xc19 cy xh xq), (xc20 cy xh xq), (xc39 cy xh xq), (xc0 cy xh xq), (xc1 cy xh xq), (xc13 cy xh xq), (xc14 cy xh xq), ((u62 0), .inl (cy 0, 4, .inl (fun _ => 0))), (q61, .inr (10, [.int 0, .int 1, .int xa, .int xb, .int xc, .ref (u62 0), .int 0, .int 0, .int 0, .int 1, .int 1, .int 0]))] H := hP
            have hD : va_D A [(xc2 cy xh xq), (xc3 cy xh xq), (xc4 cy xh xq), (xc5 cy xh xq), (xc6 cy xh xq), (xc7 cy xh xq), (xc8 cy xh xq), (xc9 cy xh xq), (xc15 cy xh xq), (xc16 cy xh xq), (xc19 cy xh xq), (xc20 cy xh xq), (xc39 cy xh xq), (xc0 cy xh xq), (xc1 cy xh xq), (xc13 cy xh xq), (xc14 cy xh xq), ((u62 0), .inl (cy 0, 4, .inl (fun _ => 0))), (q61, .inr (10, [.int 0, .int 1, .int xa, .int xb, .int xc, .ref (u62 0), .int 0, .int 0, .int 0, .int 1, .int 1, .int 0]))] := hD
            refine lv_aload_n hx hb dX11_wagon_106 rfl (lv_at hl 2 rfl) ?_
            refine va_get (D := D) (ci := 11) (v := .ref (xq 38)) (C := RX11) (T := TX11) (N := 18) hx hb hts iw_X11_wagon_X11 hown hKX.1 hP 13 rfl rfl 2 (by decide) (hts (.fieldLink RX11 25 "TrainFerry" "wagons" "[LTrainFerry$Wagon;") (by decide +kernel)) (fun _ h9 => h9) rfl dX11_wagon_107 ?_
            refine lv_aload_n hx hb dX11_wagon_110 rfl (lv_at hl 2 rfl) ?_
            refine va_get (D := D) (ci := 11) (v := .int 0) (C := RX11) (T := TX11) (N := 18) hx hb hts iw_X11_wagon_X11 hown hKX.1 hP 13 rfl rfl 9 (by decide) (hts (.fieldLink RX11 63 "TrainFerry" "wagonsCome" "I") (by decide +kernel)) (fun _ h9 => h9) rfl dX11_wagon_111 ?_
            refine lv_aload hx hb dX11_wagon_114 (lv_at hl 0 rfl) ?_
            refine va_astq hx hb hKX.1 hP hD hS 12 6 18 10 rfl rfl rfl rfl (vind (by decide)) dX11_wagon_116 (fun H locs hP hD hS => ?_)
            have hP : va_P D vwCl [(xc2 cy xh xq), (xc3 cy xh xq), (xc4 cy xh xq), (xc5 cy xh xq), (xc6 cy xh xq), (xc7 cy xh xq), (xc8 cy xh xq), (xc9 cy xh xq), (xc15 cy xh xq), (xc16 cy xh xq), (xc19 cy xh xq), (xc20 cy xh xq), ((xq 38), .inl (cy 6, 100, .inr (.inr (.inr (.inr (va_up (fun _ => none) 0 (some q61))))))), (xc0 cy xh xq), (xc1 cy xh xq), (xc13 cy xh xq), (xc14 cy xh xq), ((u62 0), .inl (cy 0, 4, .inl (fun _ => 0))), (q61, .inr (10, [.int 0, .int 1, .int xa, .int xb, .int xc, .ref (u62 0), .int 0, .int 0, .int 0, .int 1, .int 1, .int 0]))] H := hP
            have hD : va_D A [(xc2 cy xh xq), (xc3 cy xh xq), (xc4 cy xh xq), (xc5 cy xh xq), (xc6 cy xh xq), (xc7 cy xh xq), (xc8 cy xh xq), (xc9 cy xh xq), (xc15 cy xh xq), (xc16 cy xh xq), (xc19 cy xh xq), (xc20 cy xh xq), ((xq 38), .inl (cy 6, 100, .inr (.inr (.inr (.inr (va_up (fun _ => none) 0 (some q61))))))), (xc0 cy xh xq), (xc1 cy xh xq), (xc13 cy xh xq), (xc14 cy xh xq), ((u62 0), .inl (cy 0, 4, .inl (fun _ => 0))), (q61, .inr (10, [.int 0, .int 1, .int xa, .int xb, .int xc, .ref (u62 0), .int 0, .int 0, .int 0, .int 1, .int 1, .int 0]))] := hD
            refine lv_aload_n hx hb dX11_wagon_117 rfl (lv_at hl 2 rfl) ?_
            refine lv_dup hx hb dX11_wagon_118 rfl ?_
            refine va_get (D := D) (ci := 11) (v := .int 0) (C := RX11) (T := TX11) (N := 18) hx hb hts iw_X11_wagon_X11 hown hKX.1 hP 13 rfl rfl 9 (by decide) (hts (.fieldLink RX11 63 "TrainFerry" "wagonsCome" "I") (by decide +kernel)) (fun _ h9 => h9) rfl dX11_wagon_119 ?_
            refine lv_iconst (v := 1) hx hb dX11_wagon_122 (by decide) ?_
            refine lv_iadd hx hb dX11_wagon_123 ?_
            refine lv_cst 1 (by decide) ?_
            refine va_put (D := D) (ci := 11) (v := .int 1) (ty := .int) (C := RX11) (T := TX11) (N := 18) hx hb hts iw_X11_wagon_X11 tyX11 tyX11_ok nmX11 hown hKX.1 hP hD hS 13 rfl rfl 9 (by decide) (hts (.fieldLink RX11 63 "TrainFerry" "wagonsCome" "I") (by decide +kernel)) (fun _ h9 => h9) rfl (by decide +kernel) rfl rfl (Nat.le_of_ble_eq_true rfl) dX11_wagon_124 (fun H locs hP hD hS => ?_)
            have hP : va_P D vwCl [(xc2 cy xh xq), (xc3 cy xh xq), (xc4 cy xh xq), (xc5 cy xh xq), (xc6 cy xh xq), (xc7 cy xh xq), (xc8 cy xh xq), (xc9 cy xh xq), (xc15 cy xh xq), (xc16 cy xh xq), (xc19 cy xh xq), (xc20 cy xh xq), ((xq 38), .inl (cy 6, 100, .inr (.inr (.inr (.inr (va_up (fun _ => none) 0 (some q61))))))), (xh, .inr (11, [.ref (xq 0), .ref (xq 23), .ref (xq 38), .ref (xq 39), .ref (xq 42), .ref (xq 43), .null, .null, .int 0, .int 1, .int 0, .int 0, .int 0, .int (-1), .int 0, .int 0, .int 5, .int 100])), (xc1 cy xh xq), (xc13 cy xh xq), (xc14 cy xh xq), ((u62 0), .inl (cy 0, 4, .inl (fun _ => 0))), (q61, .inr (10, [.int 0, .int 1, .int xa, .int xb, .int xc, .ref (u62 0), .int 0, .int 0, .int 0, .int 1, .int 1, .int 0]))] H := hP
            have hD : va_D A [(xc2 cy xh xq), (xc3 cy xh xq), (xc4 cy xh xq), (xc5 cy xh xq), (xc6 cy xh xq), (xc7 cy xh xq), (xc8 cy xh xq), (xc9 cy xh xq), (xc15 cy xh xq), (xc16 cy xh xq), (xc19 cy xh xq), (xc20 cy xh xq), ((xq 38), .inl (cy 6, 100, .inr (.inr (.inr (.inr (va_up (fun _ => none) 0 (some q61))))))), (xh, .inr (11, [.ref (xq 0), .ref (xq 23), .ref (xq 38), .ref (xq 39), .ref (xq 42), .ref (xq 43), .null, .null, .int 0, .int 1, .int 0, .int 0, .int 0, .int (-1), .int 0, .int 0, .int 5, .int 100])), (xc1 cy xh xq), (xc13 cy xh xq), (xc14 cy xh xq), ((u62 0), .inl (cy 0, 4, .inl (fun _ => 0))), (q61, .inr (10, [.int 0, .int 1, .int xa, .int xb, .int xc, .ref (u62 0), .int 0, .int 0, .int 0, .int 1, .int 1, .int 0]))] := hD
            refine lv_aload hx hb dX11_wagon_127 (lv_at hl 0 rfl) ?_
            refine va_get (D := D) (ci := 10) (v := .int 0) (C := RX10) (T := TX10) (N := 12) hx hb hts iw_X11_wagon_X10 hown hKX.1 hP 18 rfl rfl 0 (by decide) (hts (.fieldLink RX11 131 "TrainFerry$Wagon" "number" "I") (by decide +kernel)) (fun _ h9 => h9) rfl dX11_wagon_129 ?_
            exact en_i hx hb hr hlocks () (by simp [fWagon, wic1, wic2, wic3, wic4, wic5, wic6, c55, c57, c59]) trivial (hP.sub [] rfl) (hD.sub [] (by decide) rfl) hS (Nat.le_of_ble_eq_true rfl) (Nat.le_of_ble_eq_true rfl) dX11_wagon_132
          · refine lv_iconst (v := (-1)) hx hb dX11_wagon_57 (by decide) ?_
            exact en_i hx hb hr hlocks () (by simp [fWagon, wic1, wic2, wic3, wic4, wic5, wic6, c55, c57, c59]) trivial (hP.sub [] rfl) (hD.sub [] (by decide) rfl) hS (Nat.le_of_ble_eq_true rfl) (Nat.le_of_ble_eq_true rfl) dX11_wagon_58
    · refine lv_aload_n hx hb dX11_wagon_0 rfl (lv_at hl 0 rfl) ?_
      refine lv_iload_n hx hb dX11_wagon_1 rfl (lv_at hl 1 rfl) ?_
      refine lv_iload_n hx hb dX11_wagon_2 rfl (lv_at hl 2 rfl) ?_
      refine cl_q (wr := [(xc2 cy xh xq), (xc3 cy xh xq), (xc4 cy xh xq), (xc5 cy xh xq), (xc6 cy xh xq), (xc7 cy xh xq), (xc8 cy xh xq), (xc9 cy xh xq), (xc15 cy xh xq), (xc16 cy xh xq), (xc17 cy xh xq), (xc18 cy xh xq), (xc19 cy xh xq), (xc20 cy xh xq), (xc39 cy xh xq)]) (va_runV (As := [.int 1, .int 2]) (rest := []) ⟨hx, hb, hml, hown, hts⟩ (c_yardRow_12 l D cy xh xq _) (cwV 2 hts gX11_wagon_X11_yardRow rfl rfl rfl (by decide +kernel) ⟨(Nat.le_of_ble_eq_true rfl), (Nat.le_of_ble_eq_true rfl)⟩) (pre_V hKX hP hD (ci := 11) (q0 := 0) rfl rfl [0, 1, 10, 11] rfl (by decide) rfl) rfl rfl hl.1 rfl (lv_room (Nat.le_of_ble_eq_true rfl)) dX11_wagon_3 ⟨(Nat.le_of_ble_eq_true rfl), (Nat.le_of_ble_eq_true rfl)⟩) hP hD hS hA [0, 1, 10, 11] [2, 3, 4, 5, 6, 7, 8, 9, 12, 13, 14, 15, 16, 17, 18] rfl rfl (by decide) (by decide) (fun u65 H locs _ hP hD hS => ?_)
      have hP : va_P D vwCl [(xc2 cy xh xq), (xc3 cy xh xq), (xc4 cy xh xq), (xc5 cy xh xq), (xc6 cy xh xq), (xc7 cy xh xq), (xc8 cy xh xq), (xc9 cy xh xq), (xc15 cy xh xq), (xc16 cy xh xq), (xc17 cy xh xq), (xc18 cy xh xq), (xc19 cy xh xq), (xc20 cy xh xq), (xc39 cy xh xq), (xc0 cy xh xq), (xc1 cy xh xq), (xc13 cy xh xq), (xc14 cy xh xq)] H := hP
      have hD : va_D A [(xc2 cy xh xq), (xc3 cy xh xq), (xc4 cy xh xq), (xc5 cy xh xq), (xc6 cy xh xq), (xc7 cy xh xq), (xc8 cy xh xq), (xc9 cy xh xq), (xc15 cy xh xq), (xc16 cy xh xq), (xc17 cy xh xq), (xc18 cy xh xq), (xc19 cy xh xq), (xc20 cy xh xq), (xc39 cy xh xq), (xc0 cy xh xq), (xc1 cy xh xq), (xc13 cy xh xq), (xc14 cy xh xq)] := hD
      refine lv_csv (.ref (xq 18)) rfl ?_
      refine lv_astore (lv' := [(6, .ref (xq 18)), (0, .ref xh), (1, .int 1), (2, .int 2), (3, .int xa), (4, .int xb), (5, .int xc)]) hx hb dX11_wagon_6 hl (by decide) rfl (fun ls hl => ?_)
      refine lv_aload hx hb dX11_wagon_8 (lv_at hl 0 rfl) ?_
      refine lv_ifnull hx hb dX11_wagon_10 ?_
      refine lv_aload_n hx hb dX11_wagon_13 rfl (lv_at hl 1 rfl) ?_
      refine va_get (D := D) (ci := 11) (v := .int 0) (C := RX11) (T := TX11) (N := 18) hx hb hts iw_X11_wagon_X11 hown hKX.1 hP 15 rfl rfl 9 (by decide) (hts (.fieldLink RX11 63 "TrainFerry" "wagonsCome" "I") (by decide +kernel)) (fun _ h9 => h9) rfl dX11_wagon_14 ?_
      refine lv_bipush (v := 100) hx hb dX11_wagon_17 (by decide) ?_
      refine lv_icmp_lt (tgt := 24) hx hb dX11_wagon_19 (by decide) (fun _ => ?_) (fun c9 => absurd (by decide) c9)
      refine lv_iload_n hx hb dX11_wagon_24 rfl (lv_at hl 4 rfl) ?_
      refine lv_bipush (v := 6) hx hb dX11_wagon_25 (by decide) ?_
      refine lv_bipush (v := 26) hx hb dX11_wagon_27 (by decide) ?_
      refine cl_i (wr := [(xc2 cy xh xq), (xc3 cy xh xq), (xc4 cy xh xq), (xc5 cy xh xq), (xc6 cy xh xq), (xc7 cy xh xq), (xc8 cy xh xq), (xc9 cy xh xq), (xc15 cy xh xq), (xc16 cy xh xq), (xc17 cy xh xq), (xc18 cy xh xq), (xc19 cy xh xq), (xc20 cy xh xq), (xc39 cy xh xq), (xc0 cy xh xq), (xc1 cy xh xq), (xc13 cy xh xq), (xc14 cy xh xq)]) (va_runS (As := [.int xa, .int 6, .int 26]) (rest := []) ⟨hx, hb, hml, hown, hts⟩ (c_isWithin l D cy xa 6 26 _) (va_cwS 3 hts gX11_wagon_X11_isWithin rfl rfl rfl (by decide +kernel) ⟨(Nat.le_of_ble_eq_true rfl), (Nat.le_of_ble_eq_true rfl)⟩) (pre_S hKX hP hD [] rfl (by decide) rfl) rfl rfl hl.1 rfl (lv_room (Nat.le_of_ble_eq_true rfl)) dX11_wagon_29 ⟨(Nat.le_of_ble_eq_true rfl), (Nat.le_of_ble_eq_true rfl)⟩) hP hD hS hA [] [0, 1, 2, 3, 4, 5, 6, 7, 8, 9, 10, 11, 12, 13, 14, 15, 16, 17, 18] rfl rfl (by decide) (by decide) (fun u66 H locs _ hP hD hS => ?_)
      have hP : va_P D vwCl [(xc2 cy xh xq), (xc3 cy xh xq), (xc4 cy xh xq), (xc5 cy xh xq), (xc6 cy xh xq), (xc7 cy xh xq), (xc8 cy xh xq), (xc9 cy xh xq), (xc15 cy xh xq), (xc16 cy xh xq), (xc17 cy xh xq), (xc18 cy xh xq), (xc19 cy xh xq), (xc20 cy xh xq), (xc39 cy xh xq), (xc0 cy xh xq), (xc1 cy xh xq), (xc13 cy xh xq), (xc14 cy xh xq)] H := hP
      have hD : va_D A [(xc2 cy xh xq), (xc3 cy xh xq), (xc4 cy xh xq), (xc5 cy xh xq), (xc6 cy xh xq), (xc7 cy xh xq), (xc8 cy xh xq), (xc9 cy xh xq), (xc15 cy xh xq), (xc16 cy xh xq), (xc17 cy xh xq), (xc18 cy xh xq), (xc19 cy xh xq), (xc20 cy xh xq), (xc39 cy xh xq), (xc0 cy xh xq), (xc1 cy xh xq), (xc13 cy xh xq), (xc14 cy xh xq)] := hD
      refine lv_if_eq (tgt := 57) hx hb dX11_wagon_32 (by decide) (fun c67 => ?_) (fun c67 => ?_)
      · refine lv_iconst (v := (-1)) hx hb dX11_wagon_57 (by decide) ?_
        exact en_i hx hb hr hlocks () (by simp [fWagon, wic1, wic2, wic3, wic4, wic5, wic6, c67]) trivial (hP.sub [] rfl) (hD.sub [] (by decide) rfl) hS (Nat.le_of_ble_eq_true rfl) (Nat.le_of_ble_eq_true rfl) dX11_wagon_58
      · refine lv_iload hx hb dX11_wagon_35 (lv_at hl 5 rfl) ?_
        refine lv_bipush (v := 10) hx hb dX11_wagon_37 (by decide) ?_
        refine lv_bipush (v := 90) hx hb dX11_wagon_39 (by decide) ?_
        refine cl_i (wr := [(xc2 cy xh xq), (xc3 cy xh xq), (xc4 cy xh xq), (xc5 cy xh xq), (xc6 cy xh xq), (xc7 cy xh xq), (xc8 cy xh xq), (xc9 cy xh xq), (xc15 cy xh xq), (xc16 cy xh xq), (xc17 cy xh xq), (xc18 cy xh xq), (xc19 cy xh xq), (xc20 cy xh xq), (xc39 cy xh xq), (xc0 cy xh xq), (xc1 cy xh xq), (xc13 cy xh xq), (xc14 cy xh xq)]) (va_runS (As := [.int xb, .int 10, .int 90]) (rest := []) ⟨hx, hb, hml, hown, hts⟩ (c_isWithin l D cy xb 10 90 _) (va_cwS 3 hts gX11_wagon_X11_isWithin rfl rfl rfl (by decide +kernel) ⟨(Nat.le_of_ble_eq_true rfl), (Nat.le_of_ble_eq_true rfl)⟩) (pre_S hKX hP hD [] rfl (by decide) rfl) rfl rfl hl.1 rfl (lv_room (Nat.le_of_ble_eq_true rfl)) dX11_wagon_41 ⟨(Nat.le_of_ble_eq_true rfl), (Nat.le_of_ble_eq_true rfl)⟩) hP hD hS hA [] [0, 1, 2, 3, 4, 5, 6, 7, 8, 9, 10, 11, 12, 13, 14, 15, 16, 17, 18] rfl rfl (by decide) (by decide) (fun u68 H locs _ hP hD hS => ?_)
        have hP : va_P D vwCl [(xc2 cy xh xq), (xc3 cy xh xq), (xc4 cy xh xq), (xc5 cy xh xq), (xc6 cy xh xq), (xc7 cy xh xq), (xc8 cy xh xq), (xc9 cy xh xq), (xc15 cy xh xq), (xc16 cy xh xq), (xc17 cy xh xq), (xc18 cy xh xq), (xc19 cy xh xq), (xc20 cy xh xq), (xc39 cy xh xq), (xc0 cy xh xq), (xc1 cy xh xq), (xc13 cy xh xq), (xc14 cy xh xq)] H := hP
        have hD : va_D A [(xc2 cy xh xq), (xc3 cy xh xq), (xc4 cy xh xq), (xc5 cy xh xq), (xc6 cy xh xq), (xc7 cy xh xq), (xc8 cy xh xq), (xc9 cy xh xq), (xc15 cy xh xq), (xc16 cy xh xq), (xc17 cy xh xq), (xc18 cy xh xq), (xc19 cy xh xq), (xc20 cy xh xq), (xc39 cy xh xq), (xc0 cy xh xq), (xc1 cy xh xq), (xc13 cy xh xq), (xc14 cy xh xq)] := hD
        refine lv_if_eq (tgt := 57) hx hb dX11_wagon_44 (by decide) (fun c69 => ?_) (fun c69 => ?_)
        · refine lv_iconst (v := (-1)) hx hb dX11_wagon_57 (by decide) ?_
          exact en_i hx hb hr hlocks () (by simp [fWagon, wic1, wic2, wic3, wic4, wic5, wic6, c67, c69]) trivial (hP.sub [] rfl) (hD.sub [] (by decide) rfl) hS (Nat.le_of_ble_eq_true rfl) (Nat.le_of_ble_eq_true rfl) dX11_wagon_58
        · refine lv_iload hx hb dX11_wagon_47 (lv_at hl 6 rfl) ?_
          refine lv_iconst (v := 0) hx hb dX11_wagon_49 (by decide) ?_
          refine lv_iconst (v := 3) hx hb dX11_wagon_50 (by decide) ?_
          refine cl_i (wr := [(xc2 cy xh xq), (xc3 cy xh xq), (xc4 cy xh xq), (xc5 cy xh xq), (xc6 cy xh xq), (xc7 cy xh xq), (xc8 cy xh xq), (xc9 cy xh xq), (xc15 cy xh xq), (xc16 cy xh xq), (xc17 cy xh xq), (xc18 cy xh xq), (xc19 cy xh xq), (xc20 cy xh xq), (xc39 cy xh xq), (xc0 cy xh xq), (xc1 cy xh xq), (xc13 cy xh xq), (xc14 cy xh xq)]) (va_runS (As := [.int xc, .int 0, .int 3]) (rest := []) ⟨hx, hb, hml, hown, hts⟩ (c_isWithin l D cy xc 0 3 _) (va_cwS 3 hts gX11_wagon_X11_isWithin rfl rfl rfl (by decide +kernel) ⟨(Nat.le_of_ble_eq_true rfl), (Nat.le_of_ble_eq_true rfl)⟩) (pre_S hKX hP hD [] rfl (by decide) rfl) rfl rfl hl.1 rfl (lv_room (Nat.le_of_ble_eq_true rfl)) dX11_wagon_51 ⟨(Nat.le_of_ble_eq_true rfl), (Nat.le_of_ble_eq_true rfl)⟩) hP hD hS hA [] [0, 1, 2, 3, 4, 5, 6, 7, 8, 9, 10, 11, 12, 13, 14, 15, 16, 17, 18] rfl rfl (by decide) (by decide) (fun u70 H locs _ hP hD hS => ?_)
          have hP : va_P D vwCl [(xc2 cy xh xq), (xc3 cy xh xq), (xc4 cy xh xq), (xc5 cy xh xq), (xc6 cy xh xq), (xc7 cy xh xq), (xc8 cy xh xq), (xc9 cy xh xq), (xc15 cy xh xq), (xc16 cy xh xq), (xc17 cy xh xq), (xc18 cy xh xq), (xc19 cy xh xq), (xc20 cy xh xq), (xc39 cy xh xq), (xc0 cy xh xq), (xc1 cy xh xq), (xc13 cy xh xq), (xc14 cy xh xq)] H := hP
          have hD : va_D A [(xc2 cy xh xq), (xc3 cy xh xq), (xc4 cy xh xq), (xc5 cy xh xq), (xc6 cy xh xq), (xc7 cy xh xq), (xc8 cy xh xq), (xc9 cy xh xq), (xc15 cy xh xq), (xc16 cy xh xq), (xc17 cy xh xq), (xc18 cy xh xq), (xc19 cy xh xq), (xc20 cy xh xq), (xc39 cy xh xq), (xc0 cy xh xq), (xc1 cy xh xq), (xc13 cy xh xq), (xc14 cy xh xq)] := hD
          refine lv_if_ne (tgt := 59) hx hb dX11_wagon_54 (by decide) (fun c71 => ?_) (fun c71 => ?_)
          · refine lv_aload hx hb dX11_wagon_59 (lv_at hl 0 rfl) ?_
            refine lv_iload_n hx hb dX11_wagon_61 rfl (lv_at hl 4 rfl) ?_
            refine lv_sipush (v := 200) hx hb dX11_wagon_62 (by decide) ?_
            refine cl_i (wr := [(xc2 cy xh xq), (xc3 cy xh xq), (xc4 cy xh xq), (xc5 cy xh xq), (xc6 cy xh xq), (xc7 cy xh xq), (xc8 cy xh xq), (xc9 cy xh xq), (xc15 cy xh xq), (xc16 cy xh xq), (xc17 cy xh xq), (xc18 cy xh xq), (xc39 cy xh xq), (xc0 cy xh xq), (xc1 cy xh xq), (xc13 cy xh xq), (xc14 cy xh xq)]) (va_runV (As := [.int xa, .int 200]) (rest := []) ⟨hx, hb, hml, hown, hts⟩ (c_hasRoom l D cy (xq 18) (xq 19) xa c67 _) (cwV 2 hts gX11_wagon_X5_hasRoom rfl rfl rfl (by decide +kernel) ⟨(Nat.le_of_ble_eq_true rfl), (Nat.le_of_ble_eq_true rfl)⟩) (pre_V hKX hP hD (ci := 5) (q0 := 12) rfl rfl [12, 13] rfl (by decide) rfl) rfl rfl hl.1 rfl (lv_room (Nat.le_of_ble_eq_true rfl)) dX11_wagon_65 ⟨(Nat.le_of_ble_eq_true rfl), (Nat.le_of_ble_eq_true rfl)⟩) hP hD hS hA [12, 13] [0, 1, 2, 3, 4, 5, 6, 7, 8, 9, 10, 11, 14, 15, 16, 17, 18] rfl rfl (by decide) (by decide) (fun u72 H locs _ hP hD hS => ?_)
            have hP : va_P D vwCl [(xc2 cy xh xq), (xc3 cy xh xq), (xc4 cy xh xq), (xc5 cy xh xq), (xc6 cy xh xq), (xc7 cy xh xq), (xc8 cy xh xq), (xc9 cy xh xq), (xc15 cy xh xq), (xc16 cy xh xq), (xc17 cy xh xq), (xc18 cy xh xq), (xc39 cy xh xq), (xc0 cy xh xq), (xc1 cy xh xq), (xc13 cy xh xq), (xc14 cy xh xq), ((xq 18), .inr (5, [.ref (xq 19), .int 0, .int 0])), ((xq 19), .inl (cy 6, 33, .inr (.inr (.inr (.inr (fun _ => none))))))] H := hP
            have hD : va_D A [(xc2 cy xh xq), (xc3 cy xh xq), (xc4 cy xh xq), (xc5 cy xh xq), (xc6 cy xh xq), (xc7 cy xh xq), (xc8 cy xh xq), (xc9 cy xh xq), (xc15 cy xh xq), (xc16 cy xh xq), (xc17 cy xh xq), (xc18 cy xh xq), (xc39 cy xh xq), (xc0 cy xh xq), (xc1 cy xh xq), (xc13 cy xh xq), (xc14 cy xh xq), ((xq 18), .inr (5, [.ref (xq 19), .int 0, .int 0])), ((xq 19), .inl (cy 6, 33, .inr (.inr (.inr (.inr (fun _ => none))))))] := hD
            refine lv_if_ne (tgt := 73) hx hb dX11_wagon_68 (by decide) (fun _ => ?_) (fun c9 => absurd c9 (by decide))
            refine va_new (ci := 10) (fs := [.int 0, .int 0, .int 0, .int 0, .int 0, .null, .int 0, .int 0, .int 0, .int 0, .int 0, .int 0]) (C := RX10) (T := TX10) (N := 12) hx hb hts iw_X11_wagon_X10 tyX10 tyX10_ok hown (hts (.classLink RX11 23 RX10) (by decide +kernel)) (hts (.instantiable RX10 12) (by decide +kernel)) (hts (.initialized RX10) (by decide +kernel)) hKX.1 hP hD hS hA rfl (fun j hj => by rcases (show j = 0 ∨ j = 1 ∨ j = 2 ∨ j = 3 ∨ j = 4 ∨ j = 5 ∨ j = 6 ∨ j = 7 ∨ j = 8 ∨ j = 9 ∨ j = 10 ∨ j = 11 by omega) with rfl | rfl | rfl | rfl | rfl | rfl | rfl | rfl | rfl | rfl | rfl | rfl <;> rfl) (Nat.le_of_ble_eq_true rfl) (Nat.le_of_ble_eq_true rfl) dX11_wagon_73 (fun q73 H hP hD hS => ?_)
            have hP : va_P D vwCl [(xc2 cy xh xq), (xc3 cy xh xq), (xc4 cy xh xq), (xc5 cy xh xq), (xc6 cy xh xq), (xc7 cy xh xq), (xc8 cy xh xq), (xc9 cy xh xq), (xc15 cy xh xq), (xc16 cy xh xq), (xc17 cy xh xq), (xc18 cy xh xq), (xc39 cy xh xq), (xc0 cy xh xq), (xc1 cy xh xq), (xc13 cy xh xq), (xc14 cy xh xq), ((xq 18), .inr (5, [.ref (xq 19), .int 0, .int 0])), ((xq 19), .inl (cy 6, 33, .inr (.inr (.inr (.inr (fun _ => none)))))), (q73, .inr (10, [.int 0, .int 0, .int 0, .int 0, .int 0, .null, .int 0, .int 0, .int 0, .int 0, .int 0, .int 0]))] H := hP
            have hD : va_D A [(xc2 cy xh xq), (xc3 cy xh xq), (xc4 cy xh xq), (xc5 cy xh xq), (xc6 cy xh xq), (xc7 cy xh xq), (xc8 cy xh xq), (xc9 cy xh xq), (xc15 cy xh xq), (xc16 cy xh xq), (xc17 cy xh xq), (xc18 cy xh xq), (xc39 cy xh xq), (xc0 cy xh xq), (xc1 cy xh xq), (xc13 cy xh xq), (xc14 cy xh xq), ((xq 18), .inr (5, [.ref (xq 19), .int 0, .int 0])), ((xq 19), .inl (cy 6, 33, .inr (.inr (.inr (.inr (fun _ => none)))))), (q73, .inr (10, [.int 0, .int 0, .int 0, .int 0, .int 0, .null, .int 0, .int 0, .int 0, .int 0, .int 0, .int 0]))] := hD
            refine lv_dup hx hb dX11_wagon_76 rfl ?_
            refine lv_aload_n hx hb dX11_wagon_77 rfl (lv_at hl 1 rfl) ?_
            refine va_get (D := D) (ci := 11) (v := .int 0) (C := RX11) (T := TX11) (N := 18) hx hb hts iw_X11_wagon_X11 hown hKX.1 hP 13 rfl rfl 9 (by decide) (hts (.fieldLink RX11 63 "TrainFerry" "wagonsCome" "I") (by decide +kernel)) (fun _ h9 => h9) rfl dX11_wagon_78 ?_
            refine lv_iload_n hx hb dX11_wagon_81 rfl (lv_at hl 2 rfl) ?_
            refine lv_iload_n hx hb dX11_wagon_82 rfl (lv_at hl 4 rfl) ?_
            refine lv_iload hx hb dX11_wagon_83 (lv_at hl 5 rfl) ?_
            refine lv_iload hx hb dX11_wagon_85 (lv_at hl 6 rfl) ?_
            refine cl_v (wr := [(xc2 cy xh xq), (xc3 cy xh xq), (xc4 cy xh xq), (xc5 cy xh xq), (xc6 cy xh xq), (xc7 cy xh xq), (xc8 cy xh xq), (xc9 cy xh xq), (xc15 cy xh xq), (xc16 cy xh xq), (xc17 cy xh xq), (xc18 cy xh xq), (xc39 cy xh xq), (xc0 cy xh xq), (xc1 cy xh xq), (xc13 cy xh xq), (xc14 cy xh xq), ((xq 18), .inr (5, [.ref (xq 19), .int 0, .int 0])), ((xq 19), .inl (cy 6, 33, .inr (.inr (.inr (.inr (fun _ => none))))))]) (va_runI (As := [.int 0, .int 1, .int xa, .int xb, .int xc]) (rest := [.ref q73]) ⟨hx, hb, hml, hown, hts⟩ (c_Wagon_init l D cy q73 0 1 xa xb xc _) (cwI 5 hts gX11_wagon_X10_init rfl rfl rfl (hts (.initialized RX10) (by decide +kernel)) (hts (.methodLink RX11 120 yX10_init) (by decide +kernel)) (hts (.instanceMethod yX10_init) (by decide +kernel)) rfl (by decide +kernel) ⟨(Nat.le_of_ble_eq_true rfl), (Nat.le_of_ble_eq_true rfl)⟩) (pre_S hKX hP hD [19] rfl (by decide) rfl) rfl rfl hl.1 rfl (lv_room (Nat.le_of_ble_eq_true rfl)) dX11_wagon_87 ⟨(Nat.le_of_ble_eq_true rfl), (Nat.le_of_ble_eq_true rfl)⟩) hP hD hS hA [19] [0, 1, 2, 3, 4, 5, 6, 7, 8, 9, 10, 11, 12, 13, 14, 15, 16, 17, 18] rfl rfl (by decide) (by decide) (fun u74 H locs _ hP hD hS => ?_)
            have hP : va_P D vwCl [(xc2 cy xh xq), (xc3 cy xh xq), (xc4 cy xh xq), (xc5 cy xh xq), (xc6 cy xh xq), (xc7 cy xh xq), (xc8 cy xh xq), (xc9 cy xh xq), (xc15 cy xh xq), (xc16 cy xh xq), (xc17 cy xh xq), (xc18 cy xh xq), (xc39 cy xh xq), (xc0 cy xh xq), (xc1 cy xh xq), (xc13 cy xh xq), (xc14 cy xh xq), ((xq 18), .inr (5, [.ref (xq 19), .int 0, .int 0])), ((xq 19), .inl (cy 6, 33, .inr (.inr (.inr (.inr (fun _ => none)))))), (q73, .inr (10, [.int 0, .int 1, .int xa, .int xb, .int xc, .ref (u74 0), .int 0, .int 0, .int 0, .int 0, .int 0, .int 0])), ((u74 0), .inl (cy 0, 4, .inl (fun _ => 0)))] H := hP
            have hD : va_D A [(xc2 cy xh xq), (xc3 cy xh xq), (xc4 cy xh xq), (xc5 cy xh xq), (xc6 cy xh xq), (xc7 cy xh xq), (xc8 cy xh xq), (xc9 cy xh xq), (xc15 cy xh xq), (xc16 cy xh xq), (xc17 cy xh xq), (xc18 cy xh xq), (xc39 cy xh xq), (xc0 cy xh xq), (xc1 cy xh xq), (xc13 cy xh xq), (xc14 cy xh xq), ((xq 18), .inr (5, [.ref (xq 19), .int 0, .int 0])), ((xq 19), .inl (cy 6, 33, .inr (.inr (.inr (.inr (fun _ => none)))))), (q73, .inr (10, [.int 0, .int 1, .int xa, .int xb, .int xc, .ref (u74 0), .int 0, .int 0, .int 0, .int 0, .int 0, .int 0])), ((u74 0), .inl (cy 0, 4, .inl (fun _ => 0)))] := hD
            refine lv_astore (lv' := [(7, .ref q73), (6, .ref (xq 18)), (0, .ref xh), (1, .int 1), (2, .int 2), (3, .int xa), (4, .int xb), (5, .int xc)]) hx hb dX11_wagon_90 hl (by decide) rfl (fun ls hl => ?_)
            refine lv_aload hx hb dX11_wagon_92 (lv_at hl 1 rfl) ?_
            refine lv_aload hx hb dX11_wagon_94 (lv_at hl 0 rfl) ?_
            refine cl_v (wr := [(xc2 cy xh xq), (xc3 cy xh xq), (xc4 cy xh xq), (xc5 cy xh xq), (xc6 cy xh xq), (xc7 cy xh xq), (xc8 cy xh xq), (xc9 cy xh xq), (xc15 cy xh xq), (xc16 cy xh xq), (xc17 cy xh xq), (xc18 cy xh xq), (xc39 cy xh xq), (xc0 cy xh xq), (xc1 cy xh xq), (xc13 cy xh xq), (xc14 cy xh xq), ((u74 0), .inl (cy 0, 4, .inl (fun _ => 0)))]) (va_runV (As := [.ref q73]) (rest := []) ⟨hx, hb, hml, hown, hts⟩ (c_Row_add l D cy (xq 18) (xq 19) q73 (u74 0) 0 1 xa xb xc _) (cwV 1 hts gX11_wagon_X5_add rfl rfl rfl (by decide +kernel) ⟨(Nat.le_of_ble_eq_true rfl), (Nat.le_of_ble_eq_true rfl)⟩) (pre_V hKX hP hD (ci := 5) (q0 := 17) rfl rfl [17, 18, 19] rfl (by decide) rfl) rfl rfl hl.1 rfl (lv_room (Nat.le_of_ble_eq_true rfl)) dX11_wagon_96 ⟨(Nat.le_of_ble_eq_true rfl), (Nat.le_of_ble_eq_true rfl)⟩) hP hD hS hA [17, 18, 19] [0, 1, 2, 3, 4, 5, 6, 7, 8, 9, 10, 11, 12, 13, 14, 15, 16, 20] rfl rfl (by decide) (by decide) (fun u75 H locs _ hP hD hS => ?_)
            have hP : va_P D vwCl [(xc2 cy xh xq), (xc3 cy xh xq), (xc4 cy xh xq), (xc5 cy xh xq), (xc6 cy xh xq), (xc7 cy xh xq), (xc8 cy xh xq), (xc9 cy xh xq), (xc15 cy xh xq), (xc16 cy xh xq), (xc17 cy xh xq), (xc18 cy xh xq), (xc39 cy xh xq), (xc0 cy xh xq), (xc1 cy xh xq), (xc13 cy xh xq), (xc14 cy xh xq), ((u74 0), .inl (cy 0, 4, .inl (fun _ => 0))), (q73, .inr (10, [.int 0, .int 1, .int xa, .int xb, .int xc, .ref (u74 0), .int 0, .int 0, .int 0, .int 0, .int 0, .int 0]))] H := hP
            have hD : va_D A [(xc2 cy xh xq), (xc3 cy xh xq), (xc4 cy xh xq), (xc5 cy xh xq), (xc6 cy xh xq), (xc7 cy xh xq), (xc8 cy xh xq), (xc9 cy xh xq), (xc15 cy xh xq), (xc16 cy xh xq), (xc17 cy xh xq), (xc18 cy xh xq), (xc39 cy xh xq), (xc0 cy xh xq), (xc1 cy xh xq), (xc13 cy xh xq), (xc14 cy xh xq), ((u74 0), .inl (cy 0, 4, .inl (fun _ => 0))), (q73, .inr (10, [.int 0, .int 1, .int xa, .int xb, .int xc, .ref (u74 0), .int 0, .int 0, .int 0, .int 0, .int 0, .int 0]))] := hD
            refine lv_aload hx hb dX11_wagon_99 (lv_at hl 0 rfl) ?_
            refine lv_iload_n hx hb dX11_wagon_101 rfl (lv_at hl 3 rfl) ?_
            refine lv_iload_n hx hb dX11_wagon_102 rfl (lv_at hl 4 rfl) ?_
            refine cl_v (wr := [(xc2 cy xh xq), (xc3 cy xh xq), (xc4 cy xh xq), (xc5 cy xh xq), (xc6 cy xh xq), (xc7 cy xh xq), (xc8 cy xh xq), (xc9 cy xh xq), (xc15 cy xh xq), (xc16 cy xh xq), (xc17 cy xh xq), (xc18 cy xh xq), (xc39 cy xh xq), (xc0 cy xh xq), (xc1 cy xh xq), (xc13 cy xh xq), (xc14 cy xh xq), ((u74 0), .inl (cy 0, 4, .inl (fun _ => 0)))]) (va_runV (As := [.int 1, .int 2]) (rest := []) ⟨hx, hb, hml, hown, hts⟩ (c_standAt l D cy q73 (u74 0) 0 1 xa xb xc 1 2 _) (cwV 2 hts gX11_wagon_X10_standAt rfl rfl rfl (by decide +kernel) ⟨(Nat.le_of_ble_eq_true rfl), (Nat.le_of_ble_eq_true rfl)⟩) (pre_V hKX hP hD (ci := 10) (q0 := 18) rfl rfl [18] rfl (by decide) rfl) rfl rfl hl.1 rfl (lv_room (Nat.le_of_ble_eq_true rfl)) dX11_wagon_103 ⟨(Nat.le_of_ble_eq_true rfl), (Nat.le_of_ble_eq_true rfl)⟩) hP hD hS hA [18] [0, 1, 2, 3, 4, 5, 6, 7, 8, 9, 10, 11, 12, 13, 14, 15, 16, 17] rfl rfl (by decide) (by decide) (fun u76 H locs _ hP hD hS => ?_)
            have hP : va_P D vwCl [(xc2 cy xh xq), (xc3 cy xh xq), (xc4 cy xh xq), (xc5 cy xh xq), (xc6 cy xh xq), (xc7 cy xh xq), (xc8 cy xh xq), (xc9 cy xh xq), (xc15 cy xh xq), (xc16 cy xh xq), (xc17 cy xh xq), (xc18 cy xh xq), (xc39 cy xh xq), (xc0 cy xh xq), (xc1 cy xh xq), (xc13 cy xh xq), (xc14 cy xh xq), ((u74 0), .inl (cy 0, 4, .inl (fun _ => 0))), (q73, .inr (10, [.int 0, .int 1, .int xa, .int xb, .int xc, .ref (u74 0), .int 0, .int 0, .int 0, .int 1, .int 2, .int 0]))] H := hP
            have hD : va_D A [(xc2 cy xh xq), (xc3 cy xh xq), (xc4 cy xh xq), (xc5 cy xh xq), (xc6 cy xh xq), (xc7 cy xh xq), (xc8 cy xh xq), (xc9 cy xh xq), (xc15 cy xh xq), (xc16 cy xh xq), (xc17 cy xh xq), (xc18 cy xh xq), (xc39 cy xh xq), (xc0 cy xh xq), (xc1 cy xh xq), (xc13 cy xh xq), (xc14 cy xh xq), ((u74 0), .inl (cy 0, 4, .inl (fun _ => 0))), (q73, .inr (10, [.int 0, .int 1, .int xa, .int xb, .int xc, .ref (u74 0), .int 0, .int 0, .int 0, .int 1, .int 2, .int 0]))] := hD
            refine lv_aload_n hx hb dX11_wagon_106 rfl (lv_at hl 2 rfl) ?_
            refine va_get (D := D) (ci := 11) (v := .ref (xq 38)) (C := RX11) (T := TX11) (N := 18) hx hb hts iw_X11_wagon_X11 hown hKX.1 hP 13 rfl rfl 2 (by decide) (hts (.fieldLink RX11 25 "TrainFerry" "wagons" "[LTrainFerry$Wagon;") (by decide +kernel)) (fun _ h9 => h9) rfl dX11_wagon_107 ?_
            refine lv_aload_n hx hb dX11_wagon_110 rfl (lv_at hl 2 rfl) ?_
            refine va_get (D := D) (ci := 11) (v := .int 0) (C := RX11) (T := TX11) (N := 18) hx hb hts iw_X11_wagon_X11 hown hKX.1 hP 13 rfl rfl 9 (by decide) (hts (.fieldLink RX11 63 "TrainFerry" "wagonsCome" "I") (by decide +kernel)) (fun _ h9 => h9) rfl dX11_wagon_111 ?_
            refine lv_aload hx hb dX11_wagon_114 (lv_at hl 0 rfl) ?_
            refine va_astq hx hb hKX.1 hP hD hS 12 6 18 10 rfl rfl rfl rfl (vind (by decide)) dX11_wagon_116 (fun H locs hP hD hS => ?_)
            have hP : va_P D vwCl [(xc2 cy xh xq), (xc3 cy xh xq), (xc4 cy xh xq), (xc5 cy xh xq), (xc6 cy xh xq), (xc7 cy xh xq), (xc8 cy xh xq), (xc9 cy xh xq), (xc15 cy xh xq), (xc16 cy xh xq), (xc17 cy xh xq), (xc18 cy xh xq), ((xq 38), .inl (cy 6, 100, .inr (.inr (.inr (.inr (va_up (fun _ => none) 0 (some q73))))))), (xc0 cy xh xq), (xc1 cy xh xq), (xc13 cy xh xq), (xc14 cy xh xq), ((u74 0), .inl (cy 0, 4, .inl (fun _ => 0))), (q73, .inr (10, [.int 0, .int 1, .int xa, .int xb, .int xc, .ref (u74 0), .int 0, .int 0, .int 0, .int 1, .int 2, .int 0]))] H := hP
            have hD : va_D A [(xc2 cy xh xq), (xc3 cy xh xq), (xc4 cy xh xq), (xc5 cy xh xq), (xc6 cy xh xq), (xc7 cy xh xq), (xc8 cy xh xq), (xc9 cy xh xq), (xc15 cy xh xq), (xc16 cy xh xq), (xc17 cy xh xq), (xc18 cy xh xq), ((xq 38), .inl (cy 6, 100, .inr (.inr (.inr (.inr (va_up (fun _ => none) 0 (some q73))))))), (xc0 cy xh xq), (xc1 cy xh xq), (xc13 cy xh xq), (xc14 cy xh xq), ((u74 0), .inl (cy 0, 4, .inl (fun _ => 0))), (q73, .inr (10, [.int 0, .int 1, .int xa, .int xb, .int xc, .ref (u74 0), .int 0, .int 0, .int 0, .int 1, .int 2, .int 0]))] := hD
            refine lv_aload_n hx hb dX11_wagon_117 rfl (lv_at hl 2 rfl) ?_
            refine lv_dup hx hb dX11_wagon_118 rfl ?_
            refine va_get (D := D) (ci := 11) (v := .int 0) (C := RX11) (T := TX11) (N := 18) hx hb hts iw_X11_wagon_X11 hown hKX.1 hP 13 rfl rfl 9 (by decide) (hts (.fieldLink RX11 63 "TrainFerry" "wagonsCome" "I") (by decide +kernel)) (fun _ h9 => h9) rfl dX11_wagon_119 ?_
            refine lv_iconst (v := 1) hx hb dX11_wagon_122 (by decide) ?_
            refine lv_iadd hx hb dX11_wagon_123 ?_
            refine lv_cst 1 (by decide) ?_
            refine va_put (D := D) (ci := 11) (v := .int 1) (ty := .int) (C := RX11) (T := TX11) (N := 18) hx hb hts iw_X11_wagon_X11 tyX11 tyX11_ok nmX11 hown hKX.1 hP hD hS 13 rfl rfl 9 (by decide) (hts (.fieldLink RX11 63 "TrainFerry" "wagonsCome" "I") (by decide +kernel)) (fun _ h9 => h9) rfl (by decide +kernel) rfl rfl (Nat.le_of_ble_eq_true rfl) dX11_wagon_124 (fun H locs hP hD hS => ?_)
            have hP : va_P D vwCl [(xc2 cy xh xq), (xc3 cy xh xq), (xc4 cy xh xq), (xc5 cy xh xq), (xc6 cy xh xq), (xc7 cy xh xq), (xc8 cy xh xq), (xc9 cy xh xq), (xc15 cy xh xq), (xc16 cy xh xq), (xc17 cy xh xq), (xc18 cy xh xq), ((xq 38), .inl (cy 6, 100, .inr (.inr (.inr (.inr (va_up (fun _ => none) 0 (some q73))))))), (xh, .inr (11, [.ref (xq 0), .ref (xq 23), .ref (xq 38), .ref (xq 39), .ref (xq 42), .ref (xq 43), .null, .null, .int 0, .int 1, .int 0, .int 0, .int 0, .int (-1), .int 0, .int 0, .int 5, .int 100])), (xc1 cy xh xq), (xc13 cy xh xq), (xc14 cy xh xq), ((u74 0), .inl (cy 0, 4, .inl (fun _ => 0))), (q73, .inr (10, [.int 0, .int 1, .int xa, .int xb, .int xc, .ref (u74 0), .int 0, .int 0, .int 0, .int 1, .int 2, .int 0]))] H := hP
            have hD : va_D A [(xc2 cy xh xq), (xc3 cy xh xq), (xc4 cy xh xq), (xc5 cy xh xq), (xc6 cy xh xq), (xc7 cy xh xq), (xc8 cy xh xq), (xc9 cy xh xq), (xc15 cy xh xq), (xc16 cy xh xq), (xc17 cy xh xq), (xc18 cy xh xq), ((xq 38), .inl (cy 6, 100, .inr (.inr (.inr (.inr (va_up (fun _ => none) 0 (some q73))))))), (xh, .inr (11, [.ref (xq 0), .ref (xq 23), .ref (xq 38), .ref (xq 39), .ref (xq 42), .ref (xq 43), .null, .null, .int 0, .int 1, .int 0, .int 0, .int 0, .int (-1), .int 0, .int 0, .int 5, .int 100])), (xc1 cy xh xq), (xc13 cy xh xq), (xc14 cy xh xq), ((u74 0), .inl (cy 0, 4, .inl (fun _ => 0))), (q73, .inr (10, [.int 0, .int 1, .int xa, .int xb, .int xc, .ref (u74 0), .int 0, .int 0, .int 0, .int 1, .int 2, .int 0]))] := hD
            refine lv_aload hx hb dX11_wagon_127 (lv_at hl 0 rfl) ?_
            refine va_get (D := D) (ci := 10) (v := .int 0) (C := RX10) (T := TX10) (N := 12) hx hb hts iw_X11_wagon_X10 hown hKX.1 hP 18 rfl rfl 0 (by decide) (hts (.fieldLink RX11 131 "TrainFerry$Wagon" "number" "I") (by decide +kernel)) (fun _ h9 => h9) rfl dX11_wagon_129 ?_
            exact en_i hx hb hr hlocks () (by simp [fWagon, wic1, wic2, wic3, wic4, wic5, wic6, c67, c69, c71]) trivial (hP.sub [] rfl) (hD.sub [] (by decide) rfl) hS (Nat.le_of_ble_eq_true rfl) (Nat.le_of_ble_eq_true rfl) dX11_wagon_132
          · refine lv_iconst (v := (-1)) hx hb dX11_wagon_57 (by decide) ?_
            exact en_i hx hb hr hlocks () (by simp [fWagon, wic1, wic2, wic3, wic4, wic5, wic6, c67, c69, c71]) trivial (hP.sub [] rfl) (hD.sub [] (by decide) rfl) hS (Nat.le_of_ble_eq_true rfl) (Nat.le_of_ble_eq_true rfl) dX11_wagon_58
    · refine lv_aload_n hx hb dX11_wagon_0 rfl (lv_at hl 0 rfl) ?_
      refine lv_iload_n hx hb dX11_wagon_1 rfl (lv_at hl 1 rfl) ?_
      refine lv_iload_n hx hb dX11_wagon_2 rfl (lv_at hl 2 rfl) ?_
      refine cl_q (wr := [(xc0 cy xh xq), (xc1 cy xh xq), (xc2 cy xh xq), (xc3 cy xh xq), (xc4 cy xh xq), (xc5 cy xh xq), (xc6 cy xh xq), (xc7 cy xh xq), (xc8 cy xh xq), (xc9 cy xh xq), (xc13 cy xh xq), (xc14 cy xh xq), (xc15 cy xh xq), (xc16 cy xh xq), (xc17 cy xh xq), (xc18 cy xh xq), (xc19 cy xh xq), (xc20 cy xh xq), (xc39 cy xh xq)]) (va_runV (As := [.int 1, .int xt]) (rest := []) ⟨hx, hb, hml, hown, hts⟩ (c_yardRow_t l D cy xh _ 1 xt o40 _) (cwV 2 hts gX11_wagon_X11_yardRow rfl rfl rfl (by decide +kernel) ⟨(Nat.le_of_ble_eq_true rfl), (Nat.le_of_ble_eq_true rfl)⟩) (pre_V hKX hP hD (ci := 11) (q0 := 0) rfl rfl [] rfl (by decide) rfl) rfl rfl hl.1 rfl (lv_room (Nat.le_of_ble_eq_true rfl)) dX11_wagon_3 ⟨(Nat.le_of_ble_eq_true rfl), (Nat.le_of_ble_eq_true rfl)⟩) hP hD hS hA [] [0, 1, 2, 3, 4, 5, 6, 7, 8, 9, 10, 11, 12, 13, 14, 15, 16, 17, 18] rfl rfl (by decide) (by decide) (fun u77 H locs _ hP hD hS => ?_)
      have hP : va_P D vwCl [(xc0 cy xh xq), (xc1 cy xh xq), (xc2 cy xh xq), (xc3 cy xh xq), (xc4 cy xh xq), (xc5 cy xh xq), (xc6 cy xh xq), (xc7 cy xh xq), (xc8 cy xh xq), (xc9 cy xh xq), (xc13 cy xh xq), (xc14 cy xh xq), (xc15 cy xh xq), (xc16 cy xh xq), (xc17 cy xh xq), (xc18 cy xh xq), (xc19 cy xh xq), (xc20 cy xh xq), (xc39 cy xh xq)] H := hP
      have hD : va_D A [(xc0 cy xh xq), (xc1 cy xh xq), (xc2 cy xh xq), (xc3 cy xh xq), (xc4 cy xh xq), (xc5 cy xh xq), (xc6 cy xh xq), (xc7 cy xh xq), (xc8 cy xh xq), (xc9 cy xh xq), (xc13 cy xh xq), (xc14 cy xh xq), (xc15 cy xh xq), (xc16 cy xh xq), (xc17 cy xh xq), (xc18 cy xh xq), (xc19 cy xh xq), (xc20 cy xh xq), (xc39 cy xh xq)] := hD
      refine lv_csv (.null) rfl ?_
      refine lv_astoreN (lv' := [(6, .null), (0, .ref xh), (1, .int 1), (2, .int xt), (3, .int xa), (4, .int xb), (5, .int xc)]) hx hb dX11_wagon_6 hl (by decide) rfl (fun ls hl => ?_)
      refine lv_aloadN hx hb dX11_wagon_8 (lv_at hl 0 rfl) ?_
      refine lv_ifnullN (tgt := 22) hx hb dX11_wagon_10 (by decide) ?_
      refine lv_iconst (v := (-1)) hx hb dX11_wagon_22 (by decide) ?_
      exact en_i hx hb hr hlocks () (by simp [fWagon, wic1, wic2, wic3, wic4, wic5, wic6, o40]) trivial (hP.sub [] rfl) (hD.sub [] (by decide) rfl) hS (Nat.le_of_ble_eq_true rfl) (Nat.le_of_ble_eq_true rfl) dX11_wagon_23
  · refine lv_aload_n hx hb dX11_wagon_0 rfl (lv_at hl 0 rfl) ?_
    refine lv_iload_n hx hb dX11_wagon_1 rfl (lv_at hl 1 rfl) ?_
    refine lv_iload_n hx hb dX11_wagon_2 rfl (lv_at hl 2 rfl) ?_
    refine cl_q (wr := [(xc0 cy xh xq), (xc1 cy xh xq), (xc2 cy xh xq), (xc3 cy xh xq), (xc4 cy xh xq), (xc5 cy xh xq), (xc6 cy xh xq), (xc7 cy xh xq), (xc8 cy xh xq), (xc9 cy xh xq), (xc13 cy xh xq), (xc14 cy xh xq), (xc15 cy xh xq), (xc16 cy xh xq), (xc17 cy xh xq), (xc18 cy xh xq), (xc19 cy xh xq), (xc20 cy xh xq), (xc39 cy xh xq)]) (va_runV (As := [.int xs, .int xt]) (rest := []) ⟨hx, hb, hml, hown, hts⟩ (c_yardRow_s l D cy xh _ xs xt o1 _) (cwV 2 hts gX11_wagon_X11_yardRow rfl rfl rfl (by decide +kernel) ⟨(Nat.le_of_ble_eq_true rfl), (Nat.le_of_ble_eq_true rfl)⟩) (pre_V hKX hP hD (ci := 11) (q0 := 0) rfl rfl [] rfl (by decide) rfl) rfl rfl hl.1 rfl (lv_room (Nat.le_of_ble_eq_true rfl)) dX11_wagon_3 ⟨(Nat.le_of_ble_eq_true rfl), (Nat.le_of_ble_eq_true rfl)⟩) hP hD hS hA [] [0, 1, 2, 3, 4, 5, 6, 7, 8, 9, 10, 11, 12, 13, 14, 15, 16, 17, 18] rfl rfl (by decide) (by decide) (fun u78 H locs _ hP hD hS => ?_)
    have hP : va_P D vwCl [(xc0 cy xh xq), (xc1 cy xh xq), (xc2 cy xh xq), (xc3 cy xh xq), (xc4 cy xh xq), (xc5 cy xh xq), (xc6 cy xh xq), (xc7 cy xh xq), (xc8 cy xh xq), (xc9 cy xh xq), (xc13 cy xh xq), (xc14 cy xh xq), (xc15 cy xh xq), (xc16 cy xh xq), (xc17 cy xh xq), (xc18 cy xh xq), (xc19 cy xh xq), (xc20 cy xh xq), (xc39 cy xh xq)] H := hP
    have hD : va_D A [(xc0 cy xh xq), (xc1 cy xh xq), (xc2 cy xh xq), (xc3 cy xh xq), (xc4 cy xh xq), (xc5 cy xh xq), (xc6 cy xh xq), (xc7 cy xh xq), (xc8 cy xh xq), (xc9 cy xh xq), (xc13 cy xh xq), (xc14 cy xh xq), (xc15 cy xh xq), (xc16 cy xh xq), (xc17 cy xh xq), (xc18 cy xh xq), (xc19 cy xh xq), (xc20 cy xh xq), (xc39 cy xh xq)] := hD
    refine lv_csv (.null) rfl ?_
    refine lv_astoreN (lv' := [(6, .null), (0, .ref xh), (1, .int xs), (2, .int xt), (3, .int xa), (4, .int xb), (5, .int xc)]) hx hb dX11_wagon_6 hl (by decide) rfl (fun ls hl => ?_)
    refine lv_aloadN hx hb dX11_wagon_8 (lv_at hl 0 rfl) ?_
    refine lv_ifnullN (tgt := 22) hx hb dX11_wagon_10 (by decide) ?_
    refine lv_iconst (v := (-1)) hx hb dX11_wagon_22 (by decide) ?_
    exact en_i hx hb hr hlocks () (by simp [fWagon, wic1, wic2, wic3, wic4, wic5, wic6, o1]) trivial (hP.sub [] rfl) (hD.sub [] (by decide) rfl) hS (Nat.le_of_ble_eq_true rfl) (Nat.le_of_ble_eq_true rfl) dX11_wagon_23
theorem iw_X11_tide_X11 : ∀ w ∈ wsX110, w ∈ wsX11_tide := by decide +kernel
theorem iw_X11_tide_X7 : ∀ w ∈ wsX70, w ∈ wsX11_tide := by decide +kernel
theorem iw_X11_tide_X6 : ∀ w ∈ wsX60, w ∈ wsX11_tide := by decide +kernel
set_option maxHeartbeats 4000000 in
set_option maxRecDepth 100000 in
theorem c_tide (l : Launch) (D : va_G) (cy : Nat → ClassId) (xh : Nat) (xq : Nat → Nat) (xs : Int32) (xt : Int32) (xv : Int32) (sz : Nat) : Met l yX11_tide wsX11_tide ({ frames := 2, cells := 0, slots := 0, locals := 43 }) (wPre D cy [.ref xh, .int xs, .int xt, .int xv] sz [(xc0 cy xh xq), (xc1 cy xh xq), (xc2 cy xh xq), (xc10 cy xh xq), (xc11 cy xh xq), (xc12 cy xh xq), (xc13 cy xh xq), (xc21 cy xh xq), (xc22 cy xh xq), (xc23 cy xh xq)]) (wQi D (fTide xs xt xv) (fun _ : Unit => True) (fun _u : Unit => []) (va_A [(xc0 cy xh xq), (xc1 cy xh xq), (xc2 cy xh xq), (xc10 cy xh xq), (xc11 cy xh xq), (xc12 cy xh xq), (xc13 cy xh xq), (xc21 cy xh xq), (xc22 cy xh xq), (xc23 cy xh xq)] sz)) 0 0 (va_A [(xc0 cy xh xq), (xc1 cy xh xq), (xc2 cy xh xq), (xc10 cy xh xq), (xc11 cy xh xq), (xc12 cy xh xq), (xc13 cy xh xq), (xc21 cy xh xq), (xc22 cy xh xq), (xc23 cy xh xq)] sz) := by
  refine met_go (y := yX11_tide) (ws := wsX11_tide) (av := [.ref xh, .int xs, .int xt, .int xv]) (cc := cX11_tide) (maxL := 4) (ret := (some .boolean)) (Qc := fun A => wQi D (fTide xs xt xv) (fun _ : Unit => True) (fun _u : Unit => []) A) (by decide) rfl (Nat.le_of_ble_eq_true rfl) ?_
  intro p e s m below meth c ls A hx hb hr hml hown hts hlocks hname hKX hP hD hA hS hl
  have hown : s.vm.findClass RX11 = some m.cls := hown
  have hl : lv_has ls 4 [(0, .ref xh), (1, .int xs), (2, .int xt), (3, .int xv)] := hl
  rcases sp2 xs with rfl | rfl | o1
  · refine lv_iload_n hx hb dX11_tide_0 rfl (lv_at hl 1 rfl) ?_
    refine cl_i (wr := [(xc0 cy xh xq), (xc1 cy xh xq), (xc2 cy xh xq), (xc10 cy xh xq), (xc11 cy xh xq), (xc12 cy xh xq), (xc13 cy xh xq), (xc21 cy xh xq), (xc22 cy xh xq), (xc23 cy xh xq)]) (va_runS (As := [.int 0]) (rest := []) ⟨hx, hb, hml, hown, hts⟩ (c_isShore l D cy 0 _) (va_cwS 1 hts gX11_tide_X11_isShore rfl rfl rfl (by decide +kernel) ⟨(Nat.le_of_ble_eq_true rfl), (Nat.le_of_ble_eq_true rfl)⟩) (pre_S hKX hP hD [] rfl (by decide) rfl) rfl rfl hl.1 rfl (lv_room (Nat.le_of_ble_eq_true rfl)) dX11_tide_1 ⟨(Nat.le_of_ble_eq_true rfl), (Nat.le_of_ble_eq_true rfl)⟩) hP hD hS hA [] [0, 1, 2, 3, 4, 5, 6, 7, 8, 9] rfl rfl (by decide) (by decide) (fun u2 H locs _ hP hD hS => ?_)
    have hP : va_P D vwCl [(xc0 cy xh xq), (xc1 cy xh xq), (xc2 cy xh xq), (xc10 cy xh xq), (xc11 cy xh xq), (xc12 cy xh xq), (xc13 cy xh xq), (xc21 cy xh xq), (xc22 cy xh xq), (xc23 cy xh xq)] H := hP
    have hD : va_D A [(xc0 cy xh xq), (xc1 cy xh xq), (xc2 cy xh xq), (xc10 cy xh xq), (xc11 cy xh xq), (xc12 cy xh xq), (xc13 cy xh xq), (xc21 cy xh xq), (xc22 cy xh xq), (xc23 cy xh xq)] := hD
    refine lv_cst 1 (by decide) ?_
    refine lv_if_eq (tgt := 26) hx hb dX11_tide_4 (by decide) (fun c9 => absurd c9 (by decide)) (fun _ => ?_)
    refine lv_aload_n hx hb dX11_tide_7 rfl (lv_at hl 0 rfl) ?_
    refine lv_iload_n hx hb dX11_tide_8 rfl (lv_at hl 2 rfl) ?_
    refine cl_i (wr := [(xc1 cy xh xq), (xc2 cy xh xq), (xc10 cy xh xq), (xc11 cy xh xq), (xc12 cy xh xq), (xc13 cy xh xq), (xc21 cy xh xq), (xc22 cy xh xq), (xc23 cy xh xq)]) (va_runV (As := [.int xt]) (rest := []) ⟨hx, hb, hml, hown, hts⟩ (c_canBeTold l D cy xh xq xt _) (cwV 1 hts gX11_tide_X11_canBeTold rfl rfl rfl (by decide +kernel) ⟨(Nat.le_of_ble_eq_true rfl), (Nat.le_of_ble_eq_true rfl)⟩) (pre_V hKX hP hD (ci := 11) (q0 := 0) rfl rfl [0] rfl (by decide) rfl) rfl rfl hl.1 rfl (lv_room (Nat.le_of_ble_eq_true rfl)) dX11_tide_9 ⟨(Nat.le_of_ble_eq_true rfl), (Nat.le_of_ble_eq_true rfl)⟩) hP hD hS hA [0] [1, 2, 3, 4, 5, 6, 7, 8, 9] rfl rfl (by decide) (by decide) (fun u3 H locs _ hP hD hS => ?_)
    have hP : va_P D vwCl [(xc1 cy xh xq), (xc2 cy xh xq), (xc10 cy xh xq), (xc11 cy xh xq), (xc12 cy xh xq), (xc13 cy xh xq), (xc21 cy xh xq), (xc22 cy xh xq), (xc23 cy xh xq), (xh, .inr (11, [.ref (xq 0), .ref (xq 23), .ref (xq 38), .ref (xq 39), .ref (xq 42), .ref (xq 43), .null, .null, .int 0, .int 0, .int 0, .int 0, .int 0, .int (-1), .int 0, .int 0, .int 5, .int 100]))] H := hP
    have hD : va_D A [(xc1 cy xh xq), (xc2 cy xh xq), (xc10 cy xh xq), (xc11 cy xh xq), (xc12 cy xh xq), (xc13 cy xh xq), (xc21 cy xh xq), (xc22 cy xh xq), (xc23 cy xh xq), (xh, .inr (11, [.ref (xq 0), .ref (xq 23), .ref (xq 38), .ref (xq 39), .ref (xq 42), .ref (xq 43), .null, .null, .int 0, .int 0, .int 0, .int 0, .int 0, .int (-1), .int 0, .int 0, .int 5, .int 100]))] := hD
    refine lv_if_eq (tgt := 26) hx hb dX11_tide_12 (by decide) (fun c4 => ?_) (fun c4 => ?_)
    · refine lv_iconst (v := 0) hx hb dX11_tide_26 (by decide) ?_
      exact en_z hx hb hr hlocks rfl () (by simp [fTide, wic1, wic2, wic3, wic4, wic5, wic6, c4]) trivial (hP.sub [] rfl) (hD.sub [] (by decide) rfl) hS (Nat.le_of_ble_eq_true rfl) (Nat.le_of_ble_eq_true rfl) dX11_tide_27
    · refine lv_iload_n hx hb dX11_tide_15 rfl (lv_at hl 3 rfl) ?_
      refine lv_bipush (v := (-50)) hx hb dX11_tide_16 (by decide) ?_
      refine lv_bipush (v := 50) hx hb dX11_tide_18 (by decide) ?_
      refine cl_i (wr := [(xc1 cy xh xq), (xc2 cy xh xq), (xc10 cy xh xq), (xc11 cy xh xq), (xc12 cy xh xq), (xc13 cy xh xq), (xc21 cy xh xq), (xc22 cy xh xq), (xc23 cy xh xq), (xh, .inr (11, [.ref (xq 0), .ref (xq 23), .ref (xq 38), .ref (xq 39), .ref (xq 42), .ref (xq 43), .null, .null, .int 0, .int 0, .int 0, .int 0, .int 0, .int (-1), .int 0, .int 0, .int 5, .int 100]))]) (va_runS (As := [.int xv, .int (-50), .int 50]) (rest := []) ⟨hx, hb, hml, hown, hts⟩ (c_isWithin l D cy xv (-50) 50 _) (va_cwS 3 hts gX11_tide_X11_isWithin rfl rfl rfl (by decide +kernel) ⟨(Nat.le_of_ble_eq_true rfl), (Nat.le_of_ble_eq_true rfl)⟩) (pre_S hKX hP hD [] rfl (by decide) rfl) rfl rfl hl.1 rfl (lv_room (Nat.le_of_ble_eq_true rfl)) dX11_tide_20 ⟨(Nat.le_of_ble_eq_true rfl), (Nat.le_of_ble_eq_true rfl)⟩) hP hD hS hA [] [0, 1, 2, 3, 4, 5, 6, 7, 8, 9] rfl rfl (by decide) (by decide) (fun u5 H locs _ hP hD hS => ?_)
      have hP : va_P D vwCl [(xc1 cy xh xq), (xc2 cy xh xq), (xc10 cy xh xq), (xc11 cy xh xq), (xc12 cy xh xq), (xc13 cy xh xq), (xc21 cy xh xq), (xc22 cy xh xq), (xc23 cy xh xq), (xh, .inr (11, [.ref (xq 0), .ref (xq 23), .ref (xq 38), .ref (xq 39), .ref (xq 42), .ref (xq 43), .null, .null, .int 0, .int 0, .int 0, .int 0, .int 0, .int (-1), .int 0, .int 0, .int 5, .int 100]))] H := hP
      have hD : va_D A [(xc1 cy xh xq), (xc2 cy xh xq), (xc10 cy xh xq), (xc11 cy xh xq), (xc12 cy xh xq), (xc13 cy xh xq), (xc21 cy xh xq), (xc22 cy xh xq), (xc23 cy xh xq), (xh, .inr (11, [.ref (xq 0), .ref (xq 23), .ref (xq 38), .ref (xq 39), .ref (xq 42), .ref (xq 43), .null, .null, .int 0, .int 0, .int 0, .int 0, .int 0, .int (-1), .int 0, .int 0, .int 5, .int 100]))] := hD
      refine lv_if_ne (tgt := 28) hx hb dX11_tide_23 (by decide) (fun c6 => ?_) (fun c6 => ?_)
      · refine lv_aload_n hx hb dX11_tide_28 rfl (lv_at hl 0 rfl) ?_
        refine va_get (D := D) (ci := 11) (v := .ref (xq 0)) (C := RX11) (T := TX11) (N := 18) hx hb hts iw_X11_tide_X11 hown hKX.1 hP 9 rfl rfl 0 (by decide) (hts (.fieldLink RX11 10 "TrainFerry" "shores" "[LTrainFerry$Shore;") (by decide +kernel)) (fun _ h9 => h9) rfl dX11_tide_29 ?_
        refine lv_iconst (v := 0) hx hb dX11_tide_32 (by decide) ?_
        refine va_aldq hx hb hKX.1 hP 0 5 rfl rfl (vind (by decide)) dX11_tide_33 ?_
        refine lv_csv (.ref (xq 1)) rfl ?_
        refine va_get (D := D) (ci := 7) (v := .ref (xq 9)) (C := RX7) (T := TX7) (N := 3) hx hb hts iw_X11_tide_X7 hown hKX.1 hP 1 rfl rfl 1 (by decide) (hts (.fieldLink RX11 141 "TrainFerry$Shore" "tides" "LTrainFerry$Schedule;") (by decide +kernel)) (fun _ h9 => h9) rfl dX11_tide_34 ?_
        refine va_get (D := D) (ci := 6) (v := .int 0) (C := RX6) (T := TX6) (N := 4) hx hb hts iw_X11_tide_X6 hown hKX.1 hP 2 rfl rfl 2 (by decide) (hts (.fieldLink RX11 144 "TrainFerry$Schedule" "size" "I") (by decide +kernel)) (fun _ h9 => h9) rfl dX11_tide_37 ?_
        refine lv_aload_n hx hb dX11_tide_40 rfl (lv_at hl 0 rfl) ?_
        refine va_get (D := D) (ci := 11) (v := .ref (xq 0)) (C := RX11) (T := TX11) (N := 18) hx hb hts iw_X11_tide_X11 hown hKX.1 hP 9 rfl rfl 0 (by decide) (hts (.fieldLink RX11 10 "TrainFerry" "shores" "[LTrainFerry$Shore;") (by decide +kernel)) (fun _ h9 => h9) rfl dX11_tide_41 ?_
        refine lv_iconst (v := 1) hx hb dX11_tide_44 (by decide) ?_
        refine va_aldq hx hb hKX.1 hP 0 5 rfl rfl (vind (by decide)) dX11_tide_45 ?_
        refine lv_csv (.ref (xq 12)) rfl ?_
        refine va_get (D := D) (ci := 7) (v := .ref (xq 20)) (C := RX7) (T := TX7) (N := 3) hx hb hts iw_X11_tide_X7 hown hKX.1 hP 5 rfl rfl 1 (by decide) (hts (.fieldLink RX11 141 "TrainFerry$Shore" "tides" "LTrainFerry$Schedule;") (by decide +kernel)) (fun _ h9 => h9) rfl dX11_tide_46 ?_
        refine va_get (D := D) (ci := 6) (v := .int 0) (C := RX6) (T := TX6) (N := 4) hx hb hts iw_X11_tide_X6 hown hKX.1 hP 6 rfl rfl 2 (by decide) (hts (.fieldLink RX11 144 "TrainFerry$Schedule" "size" "I") (by decide +kernel)) (fun _ h9 => h9) rfl dX11_tide_49 ?_
        refine lv_iadd hx hb dX11_tide_52 ?_
        refine lv_cst 0 (by decide) ?_
        refine lv_sipush (v := 200) hx hb dX11_tide_53 (by decide) ?_
        refine lv_icmp_lt (tgt := 61) hx hb dX11_tide_56 (by decide) (fun _ => ?_) (fun c9 => absurd (by decide) c9)
        refine lv_aload_n hx hb dX11_tide_61 rfl (lv_at hl 0 rfl) ?_
        refine va_get (D := D) (ci := 11) (v := .ref (xq 0)) (C := RX11) (T := TX11) (N := 18) hx hb hts iw_X11_tide_X11 hown hKX.1 hP 9 rfl rfl 0 (by decide) (hts (.fieldLink RX11 10 "TrainFerry" "shores" "[LTrainFerry$Shore;") (by decide +kernel)) (fun _ h9 => h9) rfl dX11_tide_62 ?_
        refine lv_iload_n hx hb dX11_tide_65 rfl (lv_at hl 1 rfl) ?_
        refine va_aldq hx hb hKX.1 hP 0 5 rfl rfl (vind (by decide)) dX11_tide_66 ?_
        refine lv_csv (.ref (xq 1)) rfl ?_
        refine va_get (D := D) (ci := 7) (v := .ref (xq 9)) (C := RX7) (T := TX7) (N := 3) hx hb hts iw_X11_tide_X7 hown hKX.1 hP 1 rfl rfl 1 (by decide) (hts (.fieldLink RX11 141 "TrainFerry$Shore" "tides" "LTrainFerry$Schedule;") (by decide +kernel)) (fun _ h9 => h9) rfl dX11_tide_67 ?_
        refine lv_iload_n hx hb dX11_tide_70 rfl (lv_at hl 2 rfl) ?_
        refine lv_iload_n hx hb dX11_tide_71 rfl (lv_at hl 3 rfl) ?_
        refine cl_v (wr := [(xc1 cy xh xq), (xc2 cy xh xq), (xc13 cy xh xq), (xc21 cy xh xq), (xc22 cy xh xq), (xc23 cy xh xq), (xh, .inr (11, [.ref (xq 0), .ref (xq 23), .ref (xq 38), .ref (xq 39), .ref (xq 42), .ref (xq 43), .null, .null, .int 0, .int 0, .int 0, .int 0, .int 0, .int (-1), .int 0, .int 0, .int 5, .int 100]))]) (va_runV (As := [.int xt, .int xv]) (rest := []) ⟨hx, hb, hml, hown, hts⟩ (c_tell_200 l D cy (xq 9) (xq 10) (xq 11) xt xv _) (cwV 2 hts gX11_tide_X6_tell rfl rfl rfl (by decide +kernel) ⟨(Nat.le_of_ble_eq_true rfl), (Nat.le_of_ble_eq_true rfl)⟩) (pre_V hKX hP hD (ci := 6) (q0 := 2) rfl rfl [2, 3, 4] rfl (by decide) rfl) rfl rfl hl.1 rfl (lv_room (Nat.le_of_ble_eq_true rfl)) dX11_tide_72 ⟨(Nat.le_of_ble_eq_true rfl), (Nat.le_of_ble_eq_true rfl)⟩) hP hD hS hA [2, 3, 4] [0, 1, 5, 6, 7, 8, 9] rfl rfl (by decide) (by decide) (fun u7 H locs _ hP hD hS => ?_)
        have hP : va_P D vwCl [(xc1 cy xh xq), (xc2 cy xh xq), (xc13 cy xh xq), (xc21 cy xh xq), (xc22 cy xh xq), (xc23 cy xh xq), (xh, .inr (11, [.ref (xq 0), .ref (xq 23), .ref (xq 38), .ref (xq 39), .ref (xq 42), .ref (xq 43), .null, .null, .int 0, .int 0, .int 0, .int 0, .int 0, .int (-1), .int 0, .int 0, .int 5, .int 100]))] H := hP
        have hD : va_D A [(xc1 cy xh xq), (xc2 cy xh xq), (xc13 cy xh xq), (xc21 cy xh xq), (xc22 cy xh xq), (xc23 cy xh xq), (xh, .inr (11, [.ref (xq 0), .ref (xq 23), .ref (xq 38), .ref (xq 39), .ref (xq 42), .ref (xq 43), .null, .null, .int 0, .int 0, .int 0, .int 0, .int 0, .int (-1), .int 0, .int 0, .int 5, .int 100]))] := hD
        refine lv_iconst (v := 1) hx hb dX11_tide_75 (by decide) ?_
        exact en_z hx hb hr hlocks rfl () (by simp [fTide, wic1, wic2, wic3, wic4, wic5, wic6, c4, c6]) trivial (hP.sub [] rfl) (hD.sub [] (by decide) rfl) hS (Nat.le_of_ble_eq_true rfl) (Nat.le_of_ble_eq_true rfl) dX11_tide_76
      · refine lv_iconst (v := 0) hx hb dX11_tide_26 (by decide) ?_
        exact en_z hx hb hr hlocks rfl () (by simp [fTide, wic1, wic2, wic3, wic4, wic5, wic6, c4, c6]) trivial (hP.sub [] rfl) (hD.sub [] (by decide) rfl) hS (Nat.le_of_ble_eq_true rfl) (Nat.le_of_ble_eq_true rfl) dX11_tide_27
  · refine lv_iload_n hx hb dX11_tide_0 rfl (lv_at hl 1 rfl) ?_
    refine cl_i (wr := [(xc0 cy xh xq), (xc1 cy xh xq), (xc2 cy xh xq), (xc10 cy xh xq), (xc11 cy xh xq), (xc12 cy xh xq), (xc13 cy xh xq), (xc21 cy xh xq), (xc22 cy xh xq), (xc23 cy xh xq)]) (va_runS (As := [.int 1]) (rest := []) ⟨hx, hb, hml, hown, hts⟩ (c_isShore l D cy 1 _) (va_cwS 1 hts gX11_tide_X11_isShore rfl rfl rfl (by decide +kernel) ⟨(Nat.le_of_ble_eq_true rfl), (Nat.le_of_ble_eq_true rfl)⟩) (pre_S hKX hP hD [] rfl (by decide) rfl) rfl rfl hl.1 rfl (lv_room (Nat.le_of_ble_eq_true rfl)) dX11_tide_1 ⟨(Nat.le_of_ble_eq_true rfl), (Nat.le_of_ble_eq_true rfl)⟩) hP hD hS hA [] [0, 1, 2, 3, 4, 5, 6, 7, 8, 9] rfl rfl (by decide) (by decide) (fun u8 H locs _ hP hD hS => ?_)
    have hP : va_P D vwCl [(xc0 cy xh xq), (xc1 cy xh xq), (xc2 cy xh xq), (xc10 cy xh xq), (xc11 cy xh xq), (xc12 cy xh xq), (xc13 cy xh xq), (xc21 cy xh xq), (xc22 cy xh xq), (xc23 cy xh xq)] H := hP
    have hD : va_D A [(xc0 cy xh xq), (xc1 cy xh xq), (xc2 cy xh xq), (xc10 cy xh xq), (xc11 cy xh xq), (xc12 cy xh xq), (xc13 cy xh xq), (xc21 cy xh xq), (xc22 cy xh xq), (xc23 cy xh xq)] := hD
    refine lv_cst 1 (by decide) ?_
    refine lv_if_eq (tgt := 26) hx hb dX11_tide_4 (by decide) (fun c9 => absurd c9 (by decide)) (fun _ => ?_)
    refine lv_aload_n hx hb dX11_tide_7 rfl (lv_at hl 0 rfl) ?_
    refine lv_iload_n hx hb dX11_tide_8 rfl (lv_at hl 2 rfl) ?_
    refine cl_i (wr := [(xc1 cy xh xq), (xc2 cy xh xq), (xc10 cy xh xq), (xc11 cy xh xq), (xc12 cy xh xq), (xc13 cy xh xq), (xc21 cy xh xq), (xc22 cy xh xq), (xc23 cy xh xq)]) (va_runV (As := [.int xt]) (rest := []) ⟨hx, hb, hml, hown, hts⟩ (c_canBeTold l D cy xh xq xt _) (cwV 1 hts gX11_tide_X11_canBeTold rfl rfl rfl (by decide +kernel) ⟨(Nat.le_of_ble_eq_true rfl), (Nat.le_of_ble_eq_true rfl)⟩) (pre_V hKX hP hD (ci := 11) (q0 := 0) rfl rfl [0] rfl (by decide) rfl) rfl rfl hl.1 rfl (lv_room (Nat.le_of_ble_eq_true rfl)) dX11_tide_9 ⟨(Nat.le_of_ble_eq_true rfl), (Nat.le_of_ble_eq_true rfl)⟩) hP hD hS hA [0] [1, 2, 3, 4, 5, 6, 7, 8, 9] rfl rfl (by decide) (by decide) (fun u9 H locs _ hP hD hS => ?_)
    have hP : va_P D vwCl [(xc1 cy xh xq), (xc2 cy xh xq), (xc10 cy xh xq), (xc11 cy xh xq), (xc12 cy xh xq), (xc13 cy xh xq), (xc21 cy xh xq), (xc22 cy xh xq), (xc23 cy xh xq), (xh, .inr (11, [.ref (xq 0), .ref (xq 23), .ref (xq 38), .ref (xq 39), .ref (xq 42), .ref (xq 43), .null, .null, .int 0, .int 0, .int 0, .int 0, .int 0, .int (-1), .int 0, .int 0, .int 5, .int 100]))] H := hP
    have hD : va_D A [(xc1 cy xh xq), (xc2 cy xh xq), (xc10 cy xh xq), (xc11 cy xh xq), (xc12 cy xh xq), (xc13 cy xh xq), (xc21 cy xh xq), (xc22 cy xh xq), (xc23 cy xh xq), (xh, .inr (11, [.ref (xq 0), .ref (xq 23), .ref (xq 38), .ref (xq 39), .ref (xq 42), .ref (xq 43), .null, .null, .int 0, .int 0, .int 0, .int 0, .int 0, .int (-1), .int 0, .int 0, .int 5, .int 100]))] := hD
    refine lv_if_eq (tgt := 26) hx hb dX11_tide_12 (by decide) (fun c10 => ?_) (fun c10 => ?_)
    · refine lv_iconst (v := 0) hx hb dX11_tide_26 (by decide) ?_
      exact en_z hx hb hr hlocks rfl () (by simp [fTide, wic1, wic2, wic3, wic4, wic5, wic6, c10]) trivial (hP.sub [] rfl) (hD.sub [] (by decide) rfl) hS (Nat.le_of_ble_eq_true rfl) (Nat.le_of_ble_eq_true rfl) dX11_tide_27
    · refine lv_iload_n hx hb dX11_tide_15 rfl (lv_at hl 3 rfl) ?_
      refine lv_bipush (v := (-50)) hx hb dX11_tide_16 (by decide) ?_
      refine lv_bipush (v := 50) hx hb dX11_tide_18 (by decide) ?_
      refine cl_i (wr := [(xc1 cy xh xq), (xc2 cy xh xq), (xc10 cy xh xq), (xc11 cy xh xq), (xc12 cy xh xq), (xc13 cy xh xq), (xc21 cy xh xq), (xc22 cy xh xq), (xc23 cy xh xq), (xh, .inr (11, [.ref (xq 0), .ref (xq 23), .ref (xq 38), .ref (xq 39), .ref (xq 42), .ref (xq 43), .null, .null, .int 0, .int 0, .int 0, .int 0, .int 0, .int (-1), .int 0, .int 0, .int 5, .int 100]))]) (va_runS (As := [.int xv, .int (-50), .int 50]) (rest := []) ⟨hx, hb, hml, hown, hts⟩ (c_isWithin l D cy xv (-50) 50 _) (va_cwS 3 hts gX11_tide_X11_isWithin rfl rfl rfl (by decide +kernel) ⟨(Nat.le_of_ble_eq_true rfl), (Nat.le_of_ble_eq_true rfl)⟩) (pre_S hKX hP hD [] rfl (by decide) rfl) rfl rfl hl.1 rfl (lv_room (Nat.le_of_ble_eq_true rfl)) dX11_tide_20 ⟨(Nat.le_of_ble_eq_true rfl), (Nat.le_of_ble_eq_true rfl)⟩) hP hD hS hA [] [0, 1, 2, 3, 4, 5, 6, 7, 8, 9] rfl rfl (by decide) (by decide) (fun u11 H locs _ hP hD hS => ?_)
      have hP : va_P D vwCl [(xc1 cy xh xq), (xc2 cy xh xq), (xc10 cy xh xq), (xc11 cy xh xq), (xc12 cy xh xq), (xc13 cy xh xq), (xc21 cy xh xq), (xc22 cy xh xq), (xc23 cy xh xq), (xh, .inr (11, [.ref (xq 0), .ref (xq 23), .ref (xq 38), .ref (xq 39), .ref (xq 42), .ref (xq 43), .null, .null, .int 0, .int 0, .int 0, .int 0, .int 0, .int (-1), .int 0, .int 0, .int 5, .int 100]))] H := hP
      have hD : va_D A [(xc1 cy xh xq), (xc2 cy xh xq), (xc10 cy xh xq), (xc11 cy xh xq), (xc12 cy xh xq), (xc13 cy xh xq), (xc21 cy xh xq), (xc22 cy xh xq), (xc23 cy xh xq), (xh, .inr (11, [.ref (xq 0), .ref (xq 23), .ref (xq 38), .ref (xq 39), .ref (xq 42), .ref (xq 43), .null, .null, .int 0, .int 0, .int 0, .int 0, .int 0, .int (-1), .int 0, .int 0, .int 5, .int 100]))] := hD
      refine lv_if_ne (tgt := 28) hx hb dX11_tide_23 (by decide) (fun c12 => ?_) (fun c12 => ?_)
      · refine lv_aload_n hx hb dX11_tide_28 rfl (lv_at hl 0 rfl) ?_
        refine va_get (D := D) (ci := 11) (v := .ref (xq 0)) (C := RX11) (T := TX11) (N := 18) hx hb hts iw_X11_tide_X11 hown hKX.1 hP 9 rfl rfl 0 (by decide) (hts (.fieldLink RX11 10 "TrainFerry" "shores" "[LTrainFerry$Shore;") (by decide +kernel)) (fun _ h9 => h9) rfl dX11_tide_29 ?_
        refine lv_iconst (v := 0) hx hb dX11_tide_32 (by decide) ?_
        refine va_aldq hx hb hKX.1 hP 0 5 rfl rfl (vind (by decide)) dX11_tide_33 ?_
        refine lv_csv (.ref (xq 1)) rfl ?_
        refine va_get (D := D) (ci := 7) (v := .ref (xq 9)) (C := RX7) (T := TX7) (N := 3) hx hb hts iw_X11_tide_X7 hown hKX.1 hP 1 rfl rfl 1 (by decide) (hts (.fieldLink RX11 141 "TrainFerry$Shore" "tides" "LTrainFerry$Schedule;") (by decide +kernel)) (fun _ h9 => h9) rfl dX11_tide_34 ?_
        refine va_get (D := D) (ci := 6) (v := .int 0) (C := RX6) (T := TX6) (N := 4) hx hb hts iw_X11_tide_X6 hown hKX.1 hP 2 rfl rfl 2 (by decide) (hts (.fieldLink RX11 144 "TrainFerry$Schedule" "size" "I") (by decide +kernel)) (fun _ h9 => h9) rfl dX11_tide_37 ?_
        refine lv_aload_n hx hb dX11_tide_40 rfl (lv_at hl 0 rfl) ?_
        refine va_get (D := D) (ci := 11) (v := .ref (xq 0)) (C := RX11) (T := TX11) (N := 18) hx hb hts iw_X11_tide_X11 hown hKX.1 hP 9 rfl rfl 0 (by decide) (hts (.fieldLink RX11 10 "TrainFerry" "shores" "[LTrainFerry$Shore;") (by decide +kernel)) (fun _ h9 => h9) rfl dX11_tide_41 ?_
        refine lv_iconst (v := 1) hx hb dX11_tide_44 (by decide) ?_
        refine va_aldq hx hb hKX.1 hP 0 5 rfl rfl (vind (by decide)) dX11_tide_45 ?_
        refine lv_csv (.ref (xq 12)) rfl ?_
        refine va_get (D := D) (ci := 7) (v := .ref (xq 20)) (C := RX7) (T := TX7) (N := 3) hx hb hts iw_X11_tide_X7 hown hKX.1 hP 5 rfl rfl 1 (by decide) (hts (.fieldLink RX11 141 "TrainFerry$Shore" "tides" "LTrainFerry$Schedule;") (by decide +kernel)) (fun _ h9 => h9) rfl dX11_tide_46 ?_
        refine va_get (D := D) (ci := 6) (v := .int 0) (C := RX6) (T := TX6) (N := 4) hx hb hts iw_X11_tide_X6 hown hKX.1 hP 6 rfl rfl 2 (by decide) (hts (.fieldLink RX11 144 "TrainFerry$Schedule" "size" "I") (by decide +kernel)) (fun _ h9 => h9) rfl dX11_tide_49 ?_
        refine lv_iadd hx hb dX11_tide_52 ?_
        refine lv_cst 0 (by decide) ?_
        refine lv_sipush (v := 200) hx hb dX11_tide_53 (by decide) ?_
        refine lv_icmp_lt (tgt := 61) hx hb dX11_tide_56 (by decide) (fun _ => ?_) (fun c9 => absurd (by decide) c9)
        refine lv_aload_n hx hb dX11_tide_61 rfl (lv_at hl 0 rfl) ?_
        refine va_get (D := D) (ci := 11) (v := .ref (xq 0)) (C := RX11) (T := TX11) (N := 18) hx hb hts iw_X11_tide_X11 hown hKX.1 hP 9 rfl rfl 0 (by decide) (hts (.fieldLink RX11 10 "TrainFerry" "shores" "[LTrainFerry$Shore;") (by decide +kernel)) (fun _ h9 => h9) rfl dX11_tide_62 ?_
        refine lv_iload_n hx hb dX11_tide_65 rfl (lv_at hl 1 rfl) ?_
        refine va_aldq hx hb hKX.1 hP 0 5 rfl rfl (vind (by decide)) dX11_tide_66 ?_
        refine lv_csv (.ref (xq 12)) rfl ?_
        refine va_get (D := D) (ci := 7) (v := .ref (xq 20)) (C := RX7) (T := TX7) (N := 3) hx hb hts iw_X11_tide_X7 hown hKX.1 hP 5 rfl rfl 1 (by decide) (hts (.fieldLink RX11 141 "TrainFerry$Shore" "tides" "LTrainFerry$Schedule;") (by decide +kernel)) (fun _ h9 => h9) rfl dX11_tide_67 ?_
        refine lv_iload_n hx hb dX11_tide_70 rfl (lv_at hl 2 rfl) ?_
        refine lv_iload_n hx hb dX11_tide_71 rfl (lv_at hl 3 rfl) ?_
        refine cl_v (wr := [(xc1 cy xh xq), (xc2 cy xh xq), (xc10 cy xh xq), (xc11 cy xh xq), (xc12 cy xh xq), (xc13 cy xh xq), (xh, .inr (11, [.ref (xq 0), .ref (xq 23), .ref (xq 38), .ref (xq 39), .ref (xq 42), .ref (xq 43), .null, .null, .int 0, .int 0, .int 0, .int 0, .int 0, .int (-1), .int 0, .int 0, .int 5, .int 100]))]) (va_runV (As := [.int xt, .int xv]) (rest := []) ⟨hx, hb, hml, hown, hts⟩ (c_tell_200 l D cy (xq 20) (xq 21) (xq 22) xt xv _) (cwV 2 hts gX11_tide_X6_tell rfl rfl rfl (by decide +kernel) ⟨(Nat.le_of_ble_eq_true rfl), (Nat.le_of_ble_eq_true rfl)⟩) (pre_V hKX hP hD (ci := 6) (q0 := 6) rfl rfl [6, 7, 8] rfl (by decide) rfl) rfl rfl hl.1 rfl (lv_room (Nat.le_of_ble_eq_true rfl)) dX11_tide_72 ⟨(Nat.le_of_ble_eq_true rfl), (Nat.le_of_ble_eq_true rfl)⟩) hP hD hS hA [6, 7, 8] [0, 1, 2, 3, 4, 5, 9] rfl rfl (by decide) (by decide) (fun u13 H locs _ hP hD hS => ?_)
        have hP : va_P D vwCl [(xc1 cy xh xq), (xc2 cy xh xq), (xc10 cy xh xq), (xc11 cy xh xq), (xc12 cy xh xq), (xc13 cy xh xq), (xh, .inr (11, [.ref (xq 0), .ref (xq 23), .ref (xq 38), .ref (xq 39), .ref (xq 42), .ref (xq 43), .null, .null, .int 0, .int 0, .int 0, .int 0, .int 0, .int (-1), .int 0, .int 0, .int 5, .int 100]))] H := hP
        have hD : va_D A [(xc1 cy xh xq), (xc2 cy xh xq), (xc10 cy xh xq), (xc11 cy xh xq), (xc12 cy xh xq), (xc13 cy xh xq), (xh, .inr (11, [.ref (xq 0), .ref (xq 23), .ref (xq 38), .ref (xq 39), .ref (xq 42), .ref (xq 43), .null, .null, .int 0, .int 0, .int 0, .int 0, .int 0, .int (-1), .int 0, .int 0, .int 5, .int 100]))] := hD
        refine lv_iconst (v := 1) hx hb dX11_tide_75 (by decide) ?_
        exact en_z hx hb hr hlocks rfl () (by simp [fTide, wic1, wic2, wic3, wic4, wic5, wic6, c10, c12]) trivial (hP.sub [] rfl) (hD.sub [] (by decide) rfl) hS (Nat.le_of_ble_eq_true rfl) (Nat.le_of_ble_eq_true rfl) dX11_tide_76
      · refine lv_iconst (v := 0) hx hb dX11_tide_26 (by decide) ?_
        exact en_z hx hb hr hlocks rfl () (by simp [fTide, wic1, wic2, wic3, wic4, wic5, wic6, c10, c12]) trivial (hP.sub [] rfl) (hD.sub [] (by decide) rfl) hS (Nat.le_of_ble_eq_true rfl) (Nat.le_of_ble_eq_true rfl) dX11_tide_27
  · refine lv_iload_n hx hb dX11_tide_0 rfl (lv_at hl 1 rfl) ?_
    refine cl_i (wr := [(xc0 cy xh xq), (xc1 cy xh xq), (xc2 cy xh xq), (xc10 cy xh xq), (xc11 cy xh xq), (xc12 cy xh xq), (xc13 cy xh xq), (xc21 cy xh xq), (xc22 cy xh xq), (xc23 cy xh xq)]) (va_runS (As := [.int xs]) (rest := []) ⟨hx, hb, hml, hown, hts⟩ (c_isShore l D cy xs _) (va_cwS 1 hts gX11_tide_X11_isShore rfl rfl rfl (by decide +kernel) ⟨(Nat.le_of_ble_eq_true rfl), (Nat.le_of_ble_eq_true rfl)⟩) (pre_S hKX hP hD [] rfl (by decide) rfl) rfl rfl hl.1 rfl (lv_room (Nat.le_of_ble_eq_true rfl)) dX11_tide_1 ⟨(Nat.le_of_ble_eq_true rfl), (Nat.le_of_ble_eq_true rfl)⟩) hP hD hS hA [] [0, 1, 2, 3, 4, 5, 6, 7, 8, 9] rfl rfl (by decide) (by decide) (fun u14 H locs _ hP hD hS => ?_)
    have hP : va_P D vwCl [(xc0 cy xh xq), (xc1 cy xh xq), (xc2 cy xh xq), (xc10 cy xh xq), (xc11 cy xh xq), (xc12 cy xh xq), (xc13 cy xh xq), (xc21 cy xh xq), (xc22 cy xh xq), (xc23 cy xh xq)] H := hP
    have hD : va_D A [(xc0 cy xh xq), (xc1 cy xh xq), (xc2 cy xh xq), (xc10 cy xh xq), (xc11 cy xh xq), (xc12 cy xh xq), (xc13 cy xh xq), (xc21 cy xh xq), (xc22 cy xh xq), (xc23 cy xh xq)] := hD
    refine lv_if_eq (tgt := 26) hx hb dX11_tide_4 (by decide) (fun _ => ?_) (fun c9 => absurd o1 c9)
    refine lv_iconst (v := 0) hx hb dX11_tide_26 (by decide) ?_
    exact en_z hx hb hr hlocks rfl () (by simp [fTide, wic1, wic2, wic3, wic4, wic5, wic6, o1]) trivial (hP.sub [] rfl) (hD.sub [] (by decide) rfl) hS (Nat.le_of_ble_eq_true rfl) (Nat.le_of_ble_eq_true rfl) dX11_tide_27
theorem iw_X11_sea_X11 : ∀ w ∈ wsX110, w ∈ wsX11_sea := by decide +kernel
set_option maxHeartbeats 4000000 in
set_option maxRecDepth 100000 in
theorem c_sea (l : Launch) (D : va_G) (cy : Nat → ClassId) (xh : Nat) (xq : Nat → Nat) (xv : Int32) (sz : Nat) : Met l yX11_sea wsX11_sea ({ frames := 1, cells := 0, slots := 0, locals := 22 }) (wPre D cy [.ref xh, .int xv] sz [(xc0 cy xh xq)]) (wQi D (fSea xv) (fun _ : Unit => True) (fun _u : Unit => []) (va_A [(xc0 cy xh xq)] sz)) 0 0 (va_A [(xc0 cy xh xq)] sz) := by
  refine met_go (y := yX11_sea) (ws := wsX11_sea) (av := [.ref xh, .int xv]) (cc := cX11_sea) (maxL := 2) (ret := (some .boolean)) (Qc := fun A => wQi D (fSea xv) (fun _ : Unit => True) (fun _u : Unit => []) A) (by decide) rfl (Nat.le_of_ble_eq_true rfl) ?_
  intro p e s m below meth c ls A hx hb hr hml hown hts hlocks hname hKX hP hD hA hS hl
  have hown : s.vm.findClass RX11 = some m.cls := hown
  have hl : lv_has ls 2 [(0, .ref xh), (1, .int xv)] := hl
  refine lv_iload_n hx hb dX11_sea_0 rfl (lv_at hl 1 rfl) ?_
  refine lv_iconst (v := 0) hx hb dX11_sea_1 (by decide) ?_
  refine lv_iconst (v := 5) hx hb dX11_sea_2 (by decide) ?_
  refine cl_i (wr := [(xc0 cy xh xq)]) (va_runS (As := [.int xv, .int 0, .int 5]) (rest := []) ⟨hx, hb, hml, hown, hts⟩ (c_isWithin l D cy xv 0 5 _) (va_cwS 3 hts gX11_sea_X11_isWithin rfl rfl rfl (by decide +kernel) ⟨(Nat.le_of_ble_eq_true rfl), (Nat.le_of_ble_eq_true rfl)⟩) (pre_S hKX hP hD [] rfl (by decide) rfl) rfl rfl hl.1 rfl (lv_room (Nat.le_of_ble_eq_true rfl)) dX11_sea_3 ⟨(Nat.le_of_ble_eq_true rfl), (Nat.le_of_ble_eq_true rfl)⟩) hP hD hS hA [] [0] rfl rfl (by decide) (by decide) (fun u1 H locs _ hP hD hS => ?_)
  have hP : va_P D vwCl [(xc0 cy xh xq)] H := hP
  have hD : va_D A [(xc0 cy xh xq)] := hD
  refine lv_if_ne (tgt := 11) hx hb dX11_sea_6 (by decide) (fun c2 => ?_) (fun c2 => ?_)
  · refine lv_aload_n hx hb dX11_sea_11 rfl (lv_at hl 0 rfl) ?_
    refine lv_iload_n hx hb dX11_sea_12 rfl (lv_at hl 1 rfl) ?_
    refine va_put (D := D) (ci := 11) (v := .int xv) (ty := .int) (C := RX11) (T := TX11) (N := 18) hx hb hts iw_X11_sea_X11 tyX11 tyX11_ok nmX11 hown hKX.1 hP hD hS 0 rfl rfl 15 (by decide) (hts (.fieldLink RX11 82 "TrainFerry" "sea" "I") (by decide +kernel)) (fun _ h9 => h9) rfl (by decide +kernel) rfl rfl (Nat.le_of_ble_eq_true rfl) dX11_sea_13 (fun H locs hP hD hS => ?_)
    have hP : va_P D vwCl [(xh, .inr (11, [.ref (xq 0), .ref (xq 23), .ref (xq 38), .ref (xq 39), .ref (xq 42), .ref (xq 43), .null, .null, .int 0, .int 0, .int 0, .int 0, .int 0, .int (-1), .int 0, .int xv, .int 5, .int 100]))] H := hP
    have hD : va_D A [(xh, .inr (11, [.ref (xq 0), .ref (xq 23), .ref (xq 38), .ref (xq 39), .ref (xq 42), .ref (xq 43), .null, .null, .int 0, .int 0, .int 0, .int 0, .int 0, .int (-1), .int 0, .int xv, .int 5, .int 100]))] := hD
    refine lv_iconst (v := 1) hx hb dX11_sea_16 (by decide) ?_
    exact en_z hx hb hr hlocks rfl () (by simp [fSea, wic1, wic2, wic3, wic4, wic5, wic6, c2]) trivial (hP.sub [] rfl) (hD.sub [] (by decide) rfl) hS (Nat.le_of_ble_eq_true rfl) (Nat.le_of_ble_eq_true rfl) dX11_sea_17
  · refine lv_iconst (v := 0) hx hb dX11_sea_9 (by decide) ?_
    exact en_z hx hb hr hlocks rfl () (by simp [fSea, wic1, wic2, wic3, wic4, wic5, wic6, c2]) trivial (hP.sub [] rfl) (hD.sub [] (by decide) rfl) hS (Nat.le_of_ble_eq_true rfl) (Nat.le_of_ble_eq_true rfl) dX11_sea_10
theorem iw_X11_ramp_X11 : ∀ w ∈ wsX110, w ∈ wsX11_ramp := by decide +kernel
theorem iw_X11_ramp_X7 : ∀ w ∈ wsX70, w ∈ wsX11_ramp := by decide +kernel
set_option maxHeartbeats 4000000 in
set_option maxRecDepth 100000 in
theorem c_ramp_0 (l : Launch) (D : va_G) (cy : Nat → ClassId) (xh : Nat) (xq : Nat → Nat) (xs : Int32) (sz : Nat) : Met l yX11_ramp wsX11_ramp ({ frames := 2, cells := 0, slots := 0, locals := 42 }) (wPre D cy [.ref xh, .int xs, .int 0] sz [(xc0 cy xh xq), (xc1 cy xh xq), (xc2 cy xh xq), (xc13 cy xh xq)]) (wQi D (fRamp xs 0) (fun _ : Unit => True) (fun _u : Unit => []) (va_A [(xc0 cy xh xq), (xc1 cy xh xq), (xc2 cy xh xq), (xc13 cy xh xq)] sz)) 0 0 (va_A [(xc0 cy xh xq), (xc1 cy xh xq), (xc2 cy xh xq), (xc13 cy xh xq)] sz) := by
  refine met_go (y := yX11_ramp) (ws := wsX11_ramp) (av := [.ref xh, .int xs, .int 0]) (cc := cX11_ramp) (maxL := 3) (ret := (some .boolean)) (Qc := fun A => wQi D (fRamp xs 0) (fun _ : Unit => True) (fun _u : Unit => []) A) (by decide) rfl (Nat.le_of_ble_eq_true rfl) ?_
  intro p e s m below meth c ls A hx hb hr hml hown hts hlocks hname hKX hP hD hA hS hl
  have hown : s.vm.findClass RX11 = some m.cls := hown
  have hl : lv_has ls 3 [(0, .ref xh), (1, .int xs), (2, .int 0)] := hl
  rcases sp2 xs with rfl | rfl | o1
  · refine lv_iload_n hx hb dX11_ramp_0 rfl (lv_at hl 1 rfl) ?_
    refine cl_i (wr := [(xc0 cy xh xq), (xc1 cy xh xq), (xc2 cy xh xq), (xc13 cy xh xq)]) (va_runS (As := [.int 0]) (rest := []) ⟨hx, hb, hml, hown, hts⟩ (c_isShore l D cy 0 _) (va_cwS 1 hts gX11_ramp_X11_isShore rfl rfl rfl (by decide +kernel) ⟨(Nat.le_of_ble_eq_true rfl), (Nat.le_of_ble_eq_true rfl)⟩) (pre_S hKX hP hD [] rfl (by decide) rfl) rfl rfl hl.1 rfl (lv_room (Nat.le_of_ble_eq_true rfl)) dX11_ramp_1 ⟨(Nat.le_of_ble_eq_true rfl), (Nat.le_of_ble_eq_true rfl)⟩) hP hD hS hA [] [0, 1, 2, 3] rfl rfl (by decide) (by decide) (fun u2 H locs _ hP hD hS => ?_)
    have hP : va_P D vwCl [(xc0 cy xh xq), (xc1 cy xh xq), (xc2 cy xh xq), (xc13 cy xh xq)] H := hP
    have hD : va_D A [(xc0 cy xh xq), (xc1 cy xh xq), (xc2 cy xh xq), (xc13 cy xh xq)] := hD
    refine lv_cst 1 (by decide) ?_
    refine lv_if_eq (tgt := 20) hx hb dX11_ramp_4 (by decide) (fun c9 => absurd c9 (by decide)) (fun _ => ?_)
    refine lv_aload_n hx hb dX11_ramp_7 rfl (lv_at hl 0 rfl) ?_
    refine va_get (D := D) (ci := 11) (v := .ref (xq 0)) (C := RX11) (T := TX11) (N := 18) hx hb hts iw_X11_ramp_X11 hown hKX.1 hP 0 rfl rfl 0 (by decide) (hts (.fieldLink RX11 10 "TrainFerry" "shores" "[LTrainFerry$Shore;") (by decide +kernel)) (fun _ h9 => h9) rfl dX11_ramp_8 ?_
    refine lv_iload_n hx hb dX11_ramp_11 rfl (lv_at hl 1 rfl) ?_
    refine va_aldq hx hb hKX.1 hP 1 5 rfl rfl (vind (by decide)) dX11_ramp_12 ?_
    refine lv_csv (.ref (xq 1)) rfl ?_
    refine va_get (D := D) (ci := 7) (v := .int 0) (C := RX7) (T := TX7) (N := 3) hx hb hts iw_X11_ramp_X7 hown hKX.1 hP 2 rfl rfl 2 (by decide) (hts (.fieldLink RX11 150 "TrainFerry$Shore" "broken" "Z") (by decide +kernel)) (fun _ h9 => h9) rfl dX11_ramp_13 ?_
    refine lv_iload_n hx hb dX11_ramp_16 rfl (lv_at hl 2 rfl) ?_
    refine lv_icmp_ne (tgt := 22) hx hb dX11_ramp_17 (by decide) (fun c9 => absurd (by decide) c9) (fun _ => ?_)
    refine lv_iconst (v := 0) hx hb dX11_ramp_20 (by decide) ?_
    exact en_z hx hb hr hlocks rfl () (by simp [fRamp, wic1, wic2, wic3, wic4, wic5, wic6]) trivial (hP.sub [] rfl) (hD.sub [] (by decide) rfl) hS (Nat.le_of_ble_eq_true rfl) (Nat.le_of_ble_eq_true rfl) dX11_ramp_21
  · refine lv_iload_n hx hb dX11_ramp_0 rfl (lv_at hl 1 rfl) ?_
    refine cl_i (wr := [(xc0 cy xh xq), (xc1 cy xh xq), (xc2 cy xh xq), (xc13 cy xh xq)]) (va_runS (As := [.int 1]) (rest := []) ⟨hx, hb, hml, hown, hts⟩ (c_isShore l D cy 1 _) (va_cwS 1 hts gX11_ramp_X11_isShore rfl rfl rfl (by decide +kernel) ⟨(Nat.le_of_ble_eq_true rfl), (Nat.le_of_ble_eq_true rfl)⟩) (pre_S hKX hP hD [] rfl (by decide) rfl) rfl rfl hl.1 rfl (lv_room (Nat.le_of_ble_eq_true rfl)) dX11_ramp_1 ⟨(Nat.le_of_ble_eq_true rfl), (Nat.le_of_ble_eq_true rfl)⟩) hP hD hS hA [] [0, 1, 2, 3] rfl rfl (by decide) (by decide) (fun u3 H locs _ hP hD hS => ?_)
    have hP : va_P D vwCl [(xc0 cy xh xq), (xc1 cy xh xq), (xc2 cy xh xq), (xc13 cy xh xq)] H := hP
    have hD : va_D A [(xc0 cy xh xq), (xc1 cy xh xq), (xc2 cy xh xq), (xc13 cy xh xq)] := hD
    refine lv_cst 1 (by decide) ?_
    refine lv_if_eq (tgt := 20) hx hb dX11_ramp_4 (by decide) (fun c9 => absurd c9 (by decide)) (fun _ => ?_)
    refine lv_aload_n hx hb dX11_ramp_7 rfl (lv_at hl 0 rfl) ?_
    refine va_get (D := D) (ci := 11) (v := .ref (xq 0)) (C := RX11) (T := TX11) (N := 18) hx hb hts iw_X11_ramp_X11 hown hKX.1 hP 0 rfl rfl 0 (by decide) (hts (.fieldLink RX11 10 "TrainFerry" "shores" "[LTrainFerry$Shore;") (by decide +kernel)) (fun _ h9 => h9) rfl dX11_ramp_8 ?_
    refine lv_iload_n hx hb dX11_ramp_11 rfl (lv_at hl 1 rfl) ?_
    refine va_aldq hx hb hKX.1 hP 1 5 rfl rfl (vind (by decide)) dX11_ramp_12 ?_
    refine lv_csv (.ref (xq 12)) rfl ?_
    refine va_get (D := D) (ci := 7) (v := .int 0) (C := RX7) (T := TX7) (N := 3) hx hb hts iw_X11_ramp_X7 hown hKX.1 hP 3 rfl rfl 2 (by decide) (hts (.fieldLink RX11 150 "TrainFerry$Shore" "broken" "Z") (by decide +kernel)) (fun _ h9 => h9) rfl dX11_ramp_13 ?_
    refine lv_iload_n hx hb dX11_ramp_16 rfl (lv_at hl 2 rfl) ?_
    refine lv_icmp_ne (tgt := 22) hx hb dX11_ramp_17 (by decide) (fun c9 => absurd (by decide) c9) (fun _ => ?_)
    refine lv_iconst (v := 0) hx hb dX11_ramp_20 (by decide) ?_
    exact en_z hx hb hr hlocks rfl () (by simp [fRamp, wic1, wic2, wic3, wic4, wic5, wic6]) trivial (hP.sub [] rfl) (hD.sub [] (by decide) rfl) hS (Nat.le_of_ble_eq_true rfl) (Nat.le_of_ble_eq_true rfl) dX11_ramp_21
  · refine lv_iload_n hx hb dX11_ramp_0 rfl (lv_at hl 1 rfl) ?_
    refine cl_i (wr := [(xc0 cy xh xq), (xc1 cy xh xq), (xc2 cy xh xq), (xc13 cy xh xq)]) (va_runS (As := [.int xs]) (rest := []) ⟨hx, hb, hml, hown, hts⟩ (c_isShore l D cy xs _) (va_cwS 1 hts gX11_ramp_X11_isShore rfl rfl rfl (by decide +kernel) ⟨(Nat.le_of_ble_eq_true rfl), (Nat.le_of_ble_eq_true rfl)⟩) (pre_S hKX hP hD [] rfl (by decide) rfl) rfl rfl hl.1 rfl (lv_room (Nat.le_of_ble_eq_true rfl)) dX11_ramp_1 ⟨(Nat.le_of_ble_eq_true rfl), (Nat.le_of_ble_eq_true rfl)⟩) hP hD hS hA [] [0, 1, 2, 3] rfl rfl (by decide) (by decide) (fun u4 H locs _ hP hD hS => ?_)
    have hP : va_P D vwCl [(xc0 cy xh xq), (xc1 cy xh xq), (xc2 cy xh xq), (xc13 cy xh xq)] H := hP
    have hD : va_D A [(xc0 cy xh xq), (xc1 cy xh xq), (xc2 cy xh xq), (xc13 cy xh xq)] := hD
    refine lv_if_eq (tgt := 20) hx hb dX11_ramp_4 (by decide) (fun _ => ?_) (fun c9 => absurd o1 c9)
    refine lv_iconst (v := 0) hx hb dX11_ramp_20 (by decide) ?_
    exact en_z hx hb hr hlocks rfl () (by simp [fRamp, wic1, wic2, wic3, wic4, wic5, wic6, o1]) trivial (hP.sub [] rfl) (hD.sub [] (by decide) rfl) hS (Nat.le_of_ble_eq_true rfl) (Nat.le_of_ble_eq_true rfl) dX11_ramp_21
set_option maxHeartbeats 4000000 in
set_option maxRecDepth 100000 in
theorem c_ramp_1 (l : Launch) (D : va_G) (cy : Nat → ClassId) (xh : Nat) (xq : Nat → Nat) (xs : Int32) (sz : Nat) : Met l yX11_ramp wsX11_ramp ({ frames := 2, cells := 0, slots := 0, locals := 42 }) (wPre D cy [.ref xh, .int xs, .int 1] sz [(xc0 cy xh xq), (xc1 cy xh xq), (xc2 cy xh xq), (xc13 cy xh xq)]) (wQi D (fRamp xs 1) (fun _ : Unit => True) (fun _u : Unit => []) (va_A [(xc0 cy xh xq), (xc1 cy xh xq), (xc2 cy xh xq), (xc13 cy xh xq)] sz)) 0 0 (va_A [(xc0 cy xh xq), (xc1 cy xh xq), (xc2 cy xh xq), (xc13 cy xh xq)] sz) := by
  refine met_go (y := yX11_ramp) (ws := wsX11_ramp) (av := [.ref xh, .int xs, .int 1]) (cc := cX11_ramp) (maxL := 3) (ret := (some .boolean)) (Qc := fun A => wQi D (fRamp xs 1) (fun _ : Unit => True) (fun _u : Unit => []) A) (by decide) rfl (Nat.le_of_ble_eq_true rfl) ?_
  intro p e s m below meth c ls A hx hb hr hml hown hts hlocks hname hKX hP hD hA hS hl
  have hown : s.vm.findClass RX11 = some m.cls := hown
  have hl : lv_has ls 3 [(0, .ref xh), (1, .int xs), (2, .int 1)] := hl
  rcases sp2 xs with rfl | rfl | o1
  · refine lv_iload_n hx hb dX11_ramp_0 rfl (lv_at hl 1 rfl) ?_
    refine cl_i (wr := [(xc0 cy xh xq), (xc1 cy xh xq), (xc2 cy xh xq), (xc13 cy xh xq)]) (va_runS (As := [.int 0]) (rest := []) ⟨hx, hb, hml, hown, hts⟩ (c_isShore l D cy 0 _) (va_cwS 1 hts gX11_ramp_X11_isShore rfl rfl rfl (by decide +kernel) ⟨(Nat.le_of_ble_eq_true rfl), (Nat.le_of_ble_eq_true rfl)⟩) (pre_S hKX hP hD [] rfl (by decide) rfl) rfl rfl hl.1 rfl (lv_room (Nat.le_of_ble_eq_true rfl)) dX11_ramp_1 ⟨(Nat.le_of_ble_eq_true rfl), (Nat.le_of_ble_eq_true rfl)⟩) hP hD hS hA [] [0, 1, 2, 3] rfl rfl (by decide) (by decide) (fun u2 H locs _ hP hD hS => ?_)
    have hP : va_P D vwCl [(xc0 cy xh xq), (xc1 cy xh xq), (xc2 cy xh xq), (xc13 cy xh xq)] H := hP
    have hD : va_D A [(xc0 cy xh xq), (xc1 cy xh xq), (xc2 cy xh xq), (xc13 cy xh xq)] := hD
    refine lv_cst 1 (by decide) ?_
    refine lv_if_eq (tgt := 20) hx hb dX11_ramp_4 (by decide) (fun c9 => absurd c9 (by decide)) (fun _ => ?_)
    refine lv_aload_n hx hb dX11_ramp_7 rfl (lv_at hl 0 rfl) ?_
    refine va_get (D := D) (ci := 11) (v := .ref (xq 0)) (C := RX11) (T := TX11) (N := 18) hx hb hts iw_X11_ramp_X11 hown hKX.1 hP 0 rfl rfl 0 (by decide) (hts (.fieldLink RX11 10 "TrainFerry" "shores" "[LTrainFerry$Shore;") (by decide +kernel)) (fun _ h9 => h9) rfl dX11_ramp_8 ?_
    refine lv_iload_n hx hb dX11_ramp_11 rfl (lv_at hl 1 rfl) ?_
    refine va_aldq hx hb hKX.1 hP 1 5 rfl rfl (vind (by decide)) dX11_ramp_12 ?_
    refine lv_csv (.ref (xq 1)) rfl ?_
    refine va_get (D := D) (ci := 7) (v := .int 0) (C := RX7) (T := TX7) (N := 3) hx hb hts iw_X11_ramp_X7 hown hKX.1 hP 2 rfl rfl 2 (by decide) (hts (.fieldLink RX11 150 "TrainFerry$Shore" "broken" "Z") (by decide +kernel)) (fun _ h9 => h9) rfl dX11_ramp_13 ?_
    refine lv_iload_n hx hb dX11_ramp_16 rfl (lv_at hl 2 rfl) ?_
    refine lv_icmp_ne (tgt := 22) hx hb dX11_ramp_17 (by decide) (fun _ => ?_) (fun c9 => absurd c9 (by decide))
    refine lv_aload_n hx hb dX11_ramp_22 rfl (lv_at hl 0 rfl) ?_
    refine va_get (D := D) (ci := 11) (v := .ref (xq 0)) (C := RX11) (T := TX11) (N := 18) hx hb hts iw_X11_ramp_X11 hown hKX.1 hP 0 rfl rfl 0 (by decide) (hts (.fieldLink RX11 10 "TrainFerry" "shores" "[LTrainFerry$Shore;") (by decide +kernel)) (fun _ h9 => h9) rfl dX11_ramp_23 ?_
    refine lv_iload_n hx hb dX11_ramp_26 rfl (lv_at hl 1 rfl) ?_
    refine va_aldq hx hb hKX.1 hP 1 5 rfl rfl (vind (by decide)) dX11_ramp_27 ?_
    refine lv_csv (.ref (xq 1)) rfl ?_
    refine lv_iload_n hx hb dX11_ramp_28 rfl (lv_at hl 2 rfl) ?_
    refine va_put (D := D) (ci := 7) (v := .int 1) (ty := .boolean) (C := RX7) (T := TX7) (N := 3) hx hb hts iw_X11_ramp_X7 tyX7 tyX7_ok nmX7 hown hKX.1 hP hD hS 2 rfl rfl 2 (by decide) (hts (.fieldLink RX11 150 "TrainFerry$Shore" "broken" "Z") (by decide +kernel)) (fun _ h9 => h9) rfl (by decide +kernel) rfl rfl (Nat.le_of_ble_eq_true rfl) dX11_ramp_29 (fun H locs hP hD hS => ?_)
    have hP : va_P D vwCl [(xc0 cy xh xq), (xc1 cy xh xq), ((xq 1), .inr (7, [.ref (xq 2), .ref (xq 9), .int 1])), (xc13 cy xh xq)] H := hP
    have hD : va_D A [(xc0 cy xh xq), (xc1 cy xh xq), ((xq 1), .inr (7, [.ref (xq 2), .ref (xq 9), .int 1])), (xc13 cy xh xq)] := hD
    refine lv_iconst (v := 1) hx hb dX11_ramp_32 (by decide) ?_
    exact en_z hx hb hr hlocks rfl () (by simp [fRamp, wic1, wic2, wic3, wic4, wic5, wic6]) trivial (hP.sub [] rfl) (hD.sub [] (by decide) rfl) hS (Nat.le_of_ble_eq_true rfl) (Nat.le_of_ble_eq_true rfl) dX11_ramp_33
  · refine lv_iload_n hx hb dX11_ramp_0 rfl (lv_at hl 1 rfl) ?_
    refine cl_i (wr := [(xc0 cy xh xq), (xc1 cy xh xq), (xc2 cy xh xq), (xc13 cy xh xq)]) (va_runS (As := [.int 1]) (rest := []) ⟨hx, hb, hml, hown, hts⟩ (c_isShore l D cy 1 _) (va_cwS 1 hts gX11_ramp_X11_isShore rfl rfl rfl (by decide +kernel) ⟨(Nat.le_of_ble_eq_true rfl), (Nat.le_of_ble_eq_true rfl)⟩) (pre_S hKX hP hD [] rfl (by decide) rfl) rfl rfl hl.1 rfl (lv_room (Nat.le_of_ble_eq_true rfl)) dX11_ramp_1 ⟨(Nat.le_of_ble_eq_true rfl), (Nat.le_of_ble_eq_true rfl)⟩) hP hD hS hA [] [0, 1, 2, 3] rfl rfl (by decide) (by decide) (fun u3 H locs _ hP hD hS => ?_)
    have hP : va_P D vwCl [(xc0 cy xh xq), (xc1 cy xh xq), (xc2 cy xh xq), (xc13 cy xh xq)] H := hP
    have hD : va_D A [(xc0 cy xh xq), (xc1 cy xh xq), (xc2 cy xh xq), (xc13 cy xh xq)] := hD
    refine lv_cst 1 (by decide) ?_
    refine lv_if_eq (tgt := 20) hx hb dX11_ramp_4 (by decide) (fun c9 => absurd c9 (by decide)) (fun _ => ?_)
    refine lv_aload_n hx hb dX11_ramp_7 rfl (lv_at hl 0 rfl) ?_
    refine va_get (D := D) (ci := 11) (v := .ref (xq 0)) (C := RX11) (T := TX11) (N := 18) hx hb hts iw_X11_ramp_X11 hown hKX.1 hP 0 rfl rfl 0 (by decide) (hts (.fieldLink RX11 10 "TrainFerry" "shores" "[LTrainFerry$Shore;") (by decide +kernel)) (fun _ h9 => h9) rfl dX11_ramp_8 ?_
    refine lv_iload_n hx hb dX11_ramp_11 rfl (lv_at hl 1 rfl) ?_
    refine va_aldq hx hb hKX.1 hP 1 5 rfl rfl (vind (by decide)) dX11_ramp_12 ?_
    refine lv_csv (.ref (xq 12)) rfl ?_
    refine va_get (D := D) (ci := 7) (v := .int 0) (C := RX7) (T := TX7) (N := 3) hx hb hts iw_X11_ramp_X7 hown hKX.1 hP 3 rfl rfl 2 (by decide) (hts (.fieldLink RX11 150 "TrainFerry$Shore" "broken" "Z") (by decide +kernel)) (fun _ h9 => h9) rfl dX11_ramp_13 ?_
    refine lv_iload_n hx hb dX11_ramp_16 rfl (lv_at hl 2 rfl) ?_
    refine lv_icmp_ne (tgt := 22) hx hb dX11_ramp_17 (by decide) (fun _ => ?_) (fun c9 => absurd c9 (by decide))
    refine lv_aload_n hx hb dX11_ramp_22 rfl (lv_at hl 0 rfl) ?_
    refine va_get (D := D) (ci := 11) (v := .ref (xq 0)) (C := RX11) (T := TX11) (N := 18) hx hb hts iw_X11_ramp_X11 hown hKX.1 hP 0 rfl rfl 0 (by decide) (hts (.fieldLink RX11 10 "TrainFerry" "shores" "[LTrainFerry$Shore;") (by decide +kernel)) (fun _ h9 => h9) rfl dX11_ramp_23 ?_
    refine lv_iload_n hx hb dX11_ramp_26 rfl (lv_at hl 1 rfl) ?_
    refine va_aldq hx hb hKX.1 hP 1 5 rfl rfl (vind (by decide)) dX11_ramp_27 ?_
    refine lv_csv (.ref (xq 12)) rfl ?_
    refine lv_iload_n hx hb dX11_ramp_28 rfl (lv_at hl 2 rfl) ?_
    refine va_put (D := D) (ci := 7) (v := .int 1) (ty := .boolean) (C := RX7) (T := TX7) (N := 3) hx hb hts iw_X11_ramp_X7 tyX7 tyX7_ok nmX7 hown hKX.1 hP hD hS 3 rfl rfl 2 (by decide) (hts (.fieldLink RX11 150 "TrainFerry$Shore" "broken" "Z") (by decide +kernel)) (fun _ h9 => h9) rfl (by decide +kernel) rfl rfl (Nat.le_of_ble_eq_true rfl) dX11_ramp_29 (fun H locs hP hD hS => ?_)
    have hP : va_P D vwCl [(xc0 cy xh xq), (xc1 cy xh xq), (xc2 cy xh xq), ((xq 12), .inr (7, [.ref (xq 13), .ref (xq 20), .int 1]))] H := hP
    have hD : va_D A [(xc0 cy xh xq), (xc1 cy xh xq), (xc2 cy xh xq), ((xq 12), .inr (7, [.ref (xq 13), .ref (xq 20), .int 1]))] := hD
    refine lv_iconst (v := 1) hx hb dX11_ramp_32 (by decide) ?_
    exact en_z hx hb hr hlocks rfl () (by simp [fRamp, wic1, wic2, wic3, wic4, wic5, wic6]) trivial (hP.sub [] rfl) (hD.sub [] (by decide) rfl) hS (Nat.le_of_ble_eq_true rfl) (Nat.le_of_ble_eq_true rfl) dX11_ramp_33
  · refine lv_iload_n hx hb dX11_ramp_0 rfl (lv_at hl 1 rfl) ?_
    refine cl_i (wr := [(xc0 cy xh xq), (xc1 cy xh xq), (xc2 cy xh xq), (xc13 cy xh xq)]) (va_runS (As := [.int xs]) (rest := []) ⟨hx, hb, hml, hown, hts⟩ (c_isShore l D cy xs _) (va_cwS 1 hts gX11_ramp_X11_isShore rfl rfl rfl (by decide +kernel) ⟨(Nat.le_of_ble_eq_true rfl), (Nat.le_of_ble_eq_true rfl)⟩) (pre_S hKX hP hD [] rfl (by decide) rfl) rfl rfl hl.1 rfl (lv_room (Nat.le_of_ble_eq_true rfl)) dX11_ramp_1 ⟨(Nat.le_of_ble_eq_true rfl), (Nat.le_of_ble_eq_true rfl)⟩) hP hD hS hA [] [0, 1, 2, 3] rfl rfl (by decide) (by decide) (fun u4 H locs _ hP hD hS => ?_)
    have hP : va_P D vwCl [(xc0 cy xh xq), (xc1 cy xh xq), (xc2 cy xh xq), (xc13 cy xh xq)] H := hP
    have hD : va_D A [(xc0 cy xh xq), (xc1 cy xh xq), (xc2 cy xh xq), (xc13 cy xh xq)] := hD
    refine lv_if_eq (tgt := 20) hx hb dX11_ramp_4 (by decide) (fun _ => ?_) (fun c9 => absurd o1 c9)
    refine lv_iconst (v := 0) hx hb dX11_ramp_20 (by decide) ?_
    exact en_z hx hb hr hlocks rfl () (by simp [fRamp, wic1, wic2, wic3, wic4, wic5, wic6, o1]) trivial (hP.sub [] rfl) (hD.sub [] (by decide) rfl) hS (Nat.le_of_ble_eq_true rfl) (Nat.le_of_ble_eq_true rfl) dX11_ramp_21
theorem iw_X9_addBytesOf_X9 : ∀ w ∈ wsX90, w ∈ wsX9_addBytesOf := by decide +kernel
set_option maxHeartbeats 4000000 in
set_option maxRecDepth 100000 in
theorem c_addBytes_0 (l : Launch) (D : va_G) (cy : Nat → ClassId) (h : Nat) (b : Nat) (f : Nat → Int32) (n : Int32) (sz : Nat) : Met l yX9_addBytesOf wsX9_addBytesOf ({ frames := 0, cells := 0, slots := 0, locals := 0 }) (wPre D cy [.ref h, .int n] sz [(h, .inr (9, [.ref b, .int 0])), (b, .inl (cy 0, 300, .inl f))]) (wQv D (fun _ : (Nat → Int32) => True) (fun u : (Nat → Int32) => [(h, .inr (9, [.ref b, .int 4])), (b, .inl (cy 0, 300, .inl u))]) (va_A [(h, .inr (9, [.ref b, .int 0])), (b, .inl (cy 0, 300, .inl f))] sz)) 0 0 (va_A [(h, .inr (9, [.ref b, .int 0])), (b, .inl (cy 0, 300, .inl f))] sz) := by
  refine met_go (y := yX9_addBytesOf) (ws := wsX9_addBytesOf) (av := [.ref h, .int n]) (cc := cX9_addBytesOf) (maxL := 3) (ret := none) (Qc := fun A => wQv D (fun _ : (Nat → Int32) => True) (fun u : (Nat → Int32) => [(h, .inr (9, [.ref b, .int 4])), (b, .inl (cy 0, 300, .inl u))]) A) (by decide) rfl (Nat.le_of_ble_eq_true rfl) ?_
  intro p e s m below meth c ls A hx hb hr hml hown hts hlocks hname hKX hP hD hA hS hl
  have hown : s.vm.findClass RX9 = some m.cls := hown
  have hl : lv_has ls 3 [(0, .ref h), (1, .int n)] := hl
  refine lv_bipush (v := 24) hx hb dX9_addBytesOf_0 (by decide) ?_
  refine lv_istore_n (lv' := [(2, .int 24), (0, .ref h), (1, .int n)]) hx hb dX9_addBytesOf_2 rfl hl (by decide) rfl (fun ls hl => ?_)
  refine lv_iload_n hx hb dX9_addBytesOf_3 rfl (lv_at hl 0 rfl) ?_
  refine lv_if_lt (tgt := 49) hx hb dX9_addBytesOf_4 (by decide) (fun c9 => absurd c9 (by decide)) (fun _ => ?_)
  refine lv_aload_n hx hb dX9_addBytesOf_7 rfl (lv_at hl 1 rfl) ?_
  refine va_get (D := D) (ci := 9) (v := .int 0) (C := RX9) (T := TX9) (N := 2) hx hb hts iw_X9_addBytesOf_X9 hown hKX.1 hP 0 rfl rfl 1 (by decide) (hts (.fieldLink RX9 15 "TrainFerry$Tape" "size" "I") (by decide +kernel)) (fun _ h9 => h9) rfl dX9_addBytesOf_8 ?_
  refine lv_sipush (v := 300) hx hb dX9_addBytesOf_11 (by decide) ?_
  refine lv_icmp_ge (tgt := 49) hx hb dX9_addBytesOf_14 (by decide) (fun c9 => absurd c9 (by decide)) (fun _ => ?_)
  refine lv_aload_n hx hb dX9_addBytesOf_17 rfl (lv_at hl 1 rfl) ?_
  refine va_get (D := D) (ci := 9) (v := .ref b) (C := RX9) (T := TX9) (N := 2) hx hb hts iw_X9_addBytesOf_X9 hown hKX.1 hP 0 rfl rfl 0 (by decide) (hts (.fieldLink RX9 9 "TrainFerry$Tape" "bytes" "[I") (by decide +kernel)) (fun _ h9 => h9) rfl dX9_addBytesOf_18 ?_
  refine lv_aload_n hx hb dX9_addBytesOf_21 rfl (lv_at hl 1 rfl) ?_
  refine va_get (D := D) (ci := 9) (v := .int 0) (C := RX9) (T := TX9) (N := 2) hx hb hts iw_X9_addBytesOf_X9 hown hKX.1 hP 0 rfl rfl 1 (by decide) (hts (.fieldLink RX9 15 "TrainFerry$Tape" "size" "I") (by decide +kernel)) (fun _ h9 => h9) rfl dX9_addBytesOf_22 ?_
  refine lv_iload_n hx hb dX9_addBytesOf_25 rfl (lv_at hl 2 rfl) ?_
  refine lv_iload_n hx hb dX9_addBytesOf_26 rfl (lv_at hl 0 rfl) ?_
  refine lv_iushr (v := _) hx hb dX9_addBytesOf_27 rfl ?_
  refine lv_topi (fun z1 _ => ?_)
  refine lv_sipush (v := 255) hx hb dX9_addBytesOf_28 (by decide) ?_
  refine lv_iand hx hb dX9_addBytesOf_31 ?_
  refine va_iast hx hb hKX.1 hP hD hS 1 0 rfl rfl (vind (by decide)) dX9_addBytesOf_32 (fun H locs hP hD hS => ?_)
  have hP : va_P D vwCl [(h, .inr (9, [.ref b, .int 0])), (b, .inl (cy 0, 300, .inl (upd f (Int32.toNatClampNeg 0) (z1 &&& 255))))] H := hP
  have hD : va_D A [(h, .inr (9, [.ref b, .int 0])), (b, .inl (cy 0, 300, .inl (upd f (Int32.toNatClampNeg 0) (z1 &&& 255))))] := hD
  generalize upd f (Int32.toNatClampNeg 0) (z1 &&& 255) = g2 at hP hD
  refine lv_aload_n hx hb dX9_addBytesOf_33 rfl (lv_at hl 1 rfl) ?_
  refine lv_dup hx hb dX9_addBytesOf_34 rfl ?_
  refine va_get (D := D) (ci := 9) (v := .int 0) (C := RX9) (T := TX9) (N := 2) hx hb hts iw_X9_addBytesOf_X9 hown hKX.1 hP 0 rfl rfl 1 (by decide) (hts (.fieldLink RX9 15 "TrainFerry$Tape" "size" "I") (by decide +kernel)) (fun _ h9 => h9) rfl dX9_addBytesOf_35 ?_
  refine lv_iconst (v := 1) hx hb dX9_addBytesOf_38 (by decide) ?_
  refine lv_iadd hx hb dX9_addBytesOf_39 ?_
  refine lv_cst 1 (by decide) ?_
  refine va_put (D := D) (ci := 9) (v := .int 1) (ty := .int) (C := RX9) (T := TX9) (N := 2) hx hb hts iw_X9_addBytesOf_X9 tyX9 tyX9_ok nmX9 hown hKX.1 hP hD hS 0 rfl rfl 1 (by decide) (hts (.fieldLink RX9 15 "TrainFerry$Tape" "size" "I") (by decide +kernel)) (fun _ h9 => h9) rfl (by decide +kernel) rfl rfl (Nat.le_of_ble_eq_true rfl) dX9_addBytesOf_40 (fun H locs hP hD hS => ?_)
  have hP : va_P D vwCl [(h, .inr (9, [.ref b, .int 1])), (b, .inl (cy 0, 300, .inl g2))] H := hP
  have hD : va_D A [(h, .inr (9, [.ref b, .int 1])), (b, .inl (cy 0, 300, .inl g2))] := hD
  refine lv_iinc (v := 16) (lv' := [(2, .int 16), (0, .ref h), (1, .int n)]) hx hb dX9_addBytesOf_43 hl (k := 0) rfl (by decide) (by decide) rfl (fun ls hl => ?_)
  refine lv_goto (tgt := 3) hx hb dX9_addBytesOf_46 (by decide) ?_
  refine lv_iload_n hx hb dX9_addBytesOf_3 rfl (lv_at hl 0 rfl) ?_
  refine lv_if_lt (tgt := 49) hx hb dX9_addBytesOf_4 (by decide) (fun c9 => absurd c9 (by decide)) (fun _ => ?_)
  refine lv_aload_n hx hb dX9_addBytesOf_7 rfl (lv_at hl 1 rfl) ?_
  refine va_get (D := D) (ci := 9) (v := .int 1) (C := RX9) (T := TX9) (N := 2) hx hb hts iw_X9_addBytesOf_X9 hown hKX.1 hP 0 rfl rfl 1 (by decide) (hts (.fieldLink RX9 15 "TrainFerry$Tape" "size" "I") (by decide +kernel)) (fun _ h9 => h9) rfl dX9_addBytesOf_8 ?_
  refine lv_sipush (v := 300) hx hb dX9_addBytesOf_11 (by decide) ?_
  refine lv_icmp_ge (tgt := 49) hx hb dX9_addBytesOf_14 (by decide) (fun c9 => absurd c9 (by decide)) (fun _ => ?_)
  refine lv_aload_n hx hb dX9_addBytesOf_17 rfl (lv_at hl 1 rfl) ?_
  refine va_get (D := D) (ci := 9) (v := .ref b) (C := RX9) (T := TX9) (N := 2) hx hb hts iw_X9_addBytesOf_X9 hown hKX.1 hP 0 rfl rfl 0 (by decide) (hts (.fieldLink RX9 9 "TrainFerry$Tape" "bytes" "[I") (by decide +kernel)) (fun _ h9 => h9) rfl dX9_addBytesOf_18 ?_
  refine lv_aload_n hx hb dX9_addBytesOf_21 rfl (lv_at hl 1 rfl) ?_
  refine va_get (D := D) (ci := 9) (v := .int 1) (C := RX9) (T := TX9) (N := 2) hx hb hts iw_X9_addBytesOf_X9 hown hKX.1 hP 0 rfl rfl 1 (by decide) (hts (.fieldLink RX9 15 "TrainFerry$Tape" "size" "I") (by decide +kernel)) (fun _ h9 => h9) rfl dX9_addBytesOf_22 ?_
  refine lv_iload_n hx hb dX9_addBytesOf_25 rfl (lv_at hl 2 rfl) ?_
  refine lv_iload_n hx hb dX9_addBytesOf_26 rfl (lv_at hl 0 rfl) ?_
  refine lv_iushr (v := _) hx hb dX9_addBytesOf_27 rfl ?_
  refine lv_topi (fun z3 _ => ?_)
  refine lv_sipush (v := 255) hx hb dX9_addBytesOf_28 (by decide) ?_
  refine lv_iand hx hb dX9_addBytesOf_31 ?_
  refine va_iast hx hb hKX.1 hP hD hS 1 0 rfl rfl (vind (by decide)) dX9_addBytesOf_32 (fun H locs hP hD hS => ?_)
  have hP : va_P D vwCl [(h, .inr (9, [.ref b, .int 1])), (b, .inl (cy 0, 300, .inl (upd g2 (Int32.toNatClampNeg 1) (z3 &&& 255))))] H := hP
  have hD : va_D A [(h, .inr (9, [.ref b, .int 1])), (b, .inl (cy 0, 300, .inl (upd g2 (Int32.toNatClampNeg 1) (z3 &&& 255))))] := hD
  generalize upd g2 (Int32.toNatClampNeg 1) (z3 &&& 255) = g4 at hP hD
  refine lv_aload_n hx hb dX9_addBytesOf_33 rfl (lv_at hl 1 rfl) ?_
  refine lv_dup hx hb dX9_addBytesOf_34 rfl ?_
  refine va_get (D := D) (ci := 9) (v := .int 1) (C := RX9) (T := TX9) (N := 2) hx hb hts iw_X9_addBytesOf_X9 hown hKX.1 hP 0 rfl rfl 1 (by decide) (hts (.fieldLink RX9 15 "TrainFerry$Tape" "size" "I") (by decide +kernel)) (fun _ h9 => h9) rfl dX9_addBytesOf_35 ?_
  refine lv_iconst (v := 1) hx hb dX9_addBytesOf_38 (by decide) ?_
  refine lv_iadd hx hb dX9_addBytesOf_39 ?_
  refine lv_cst 2 (by decide) ?_
  refine va_put (D := D) (ci := 9) (v := .int 2) (ty := .int) (C := RX9) (T := TX9) (N := 2) hx hb hts iw_X9_addBytesOf_X9 tyX9 tyX9_ok nmX9 hown hKX.1 hP hD hS 0 rfl rfl 1 (by decide) (hts (.fieldLink RX9 15 "TrainFerry$Tape" "size" "I") (by decide +kernel)) (fun _ h9 => h9) rfl (by decide +kernel) rfl rfl (Nat.le_of_ble_eq_true rfl) dX9_addBytesOf_40 (fun H locs hP hD hS => ?_)
  have hP : va_P D vwCl [(h, .inr (9, [.ref b, .int 2])), (b, .inl (cy 0, 300, .inl g4))] H := hP
  have hD : va_D A [(h, .inr (9, [.ref b, .int 2])), (b, .inl (cy 0, 300, .inl g4))] := hD
  refine lv_iinc (v := 8) (lv' := [(2, .int 8), (0, .ref h), (1, .int n)]) hx hb dX9_addBytesOf_43 hl (k := 0) rfl (by decide) (by decide) rfl (fun ls hl => ?_)
  refine lv_goto (tgt := 3) hx hb dX9_addBytesOf_46 (by decide) ?_
  refine lv_iload_n hx hb dX9_addBytesOf_3 rfl (lv_at hl 0 rfl) ?_
  refine lv_if_lt (tgt := 49) hx hb dX9_addBytesOf_4 (by decide) (fun c9 => absurd c9 (by decide)) (fun _ => ?_)
  refine lv_aload_n hx hb dX9_addBytesOf_7 rfl (lv_at hl 1 rfl) ?_
  refine va_get (D := D) (ci := 9) (v := .int 2) (C := RX9) (T := TX9) (N := 2) hx hb hts iw_X9_addBytesOf_X9 hown hKX.1 hP 0 rfl rfl 1 (by decide) (hts (.fieldLink RX9 15 "TrainFerry$Tape" "size" "I") (by decide +kernel)) (fun _ h9 => h9) rfl dX9_addBytesOf_8 ?_
  refine lv_sipush (v := 300) hx hb dX9_addBytesOf_11 (by decide) ?_
  refine lv_icmp_ge (tgt := 49) hx hb dX9_addBytesOf_14 (by decide) (fun c9 => absurd c9 (by decide)) (fun _ => ?_)
  refine lv_aload_n hx hb dX9_addBytesOf_17 rfl (lv_at hl 1 rfl) ?_
  refine va_get (D := D) (ci := 9) (v := .ref b) (C := RX9) (T := TX9) (N := 2) hx hb hts iw_X9_addBytesOf_X9 hown hKX.1 hP 0 rfl rfl 0 (by decide) (hts (.fieldLink RX9 9 "TrainFerry$Tape" "bytes" "[I") (by decide +kernel)) (fun _ h9 => h9) rfl dX9_addBytesOf_18 ?_
  refine lv_aload_n hx hb dX9_addBytesOf_21 rfl (lv_at hl 1 rfl) ?_
  refine va_get (D := D) (ci := 9) (v := .int 2) (C := RX9) (T := TX9) (N := 2) hx hb hts iw_X9_addBytesOf_X9 hown hKX.1 hP 0 rfl rfl 1 (by decide) (hts (.fieldLink RX9 15 "TrainFerry$Tape" "size" "I") (by decide +kernel)) (fun _ h9 => h9) rfl dX9_addBytesOf_22 ?_
  refine lv_iload_n hx hb dX9_addBytesOf_25 rfl (lv_at hl 2 rfl) ?_
  refine lv_iload_n hx hb dX9_addBytesOf_26 rfl (lv_at hl 0 rfl) ?_
  refine lv_iushr (v := _) hx hb dX9_addBytesOf_27 rfl ?_
  refine lv_topi (fun z5 _ => ?_)
  refine lv_sipush (v := 255) hx hb dX9_addBytesOf_28 (by decide) ?_
  refine lv_iand hx hb dX9_addBytesOf_31 ?_
  refine va_iast hx hb hKX.1 hP hD hS 1 0 rfl rfl (vind (by decide)) dX9_addBytesOf_32 (fun H locs hP hD hS => ?_)
  have hP : va_P D vwCl [(h, .inr (9, [.ref b, .int 2])), (b, .inl (cy 0, 300, .inl (upd g4 (Int32.toNatClampNeg 2) (z5 &&& 255))))] H := hP
  have hD : va_D A [(h, .inr (9, [.ref b, .int 2])), (b, .inl (cy 0, 300, .inl (upd g4 (Int32.toNatClampNeg 2) (z5 &&& 255))))] := hD
  generalize upd g4 (Int32.toNatClampNeg 2) (z5 &&& 255) = g6 at hP hD
  refine lv_aload_n hx hb dX9_addBytesOf_33 rfl (lv_at hl 1 rfl) ?_
  refine lv_dup hx hb dX9_addBytesOf_34 rfl ?_
  refine va_get (D := D) (ci := 9) (v := .int 2) (C := RX9) (T := TX9) (N := 2) hx hb hts iw_X9_addBytesOf_X9 hown hKX.1 hP 0 rfl rfl 1 (by decide) (hts (.fieldLink RX9 15 "TrainFerry$Tape" "size" "I") (by decide +kernel)) (fun _ h9 => h9) rfl dX9_addBytesOf_35 ?_
  refine lv_iconst (v := 1) hx hb dX9_addBytesOf_38 (by decide) ?_
  refine lv_iadd hx hb dX9_addBytesOf_39 ?_
  refine lv_cst 3 (by decide) ?_
  refine va_put (D := D) (ci := 9) (v := .int 3) (ty := .int) (C := RX9) (T := TX9) (N := 2) hx hb hts iw_X9_addBytesOf_X9 tyX9 tyX9_ok nmX9 hown hKX.1 hP hD hS 0 rfl rfl 1 (by decide) (hts (.fieldLink RX9 15 "TrainFerry$Tape" "size" "I") (by decide +kernel)) (fun _ h9 => h9) rfl (by decide +kernel) rfl rfl (Nat.le_of_ble_eq_true rfl) dX9_addBytesOf_40 (fun H locs hP hD hS => ?_)
  have hP : va_P D vwCl [(h, .inr (9, [.ref b, .int 3])), (b, .inl (cy 0, 300, .inl g6))] H := hP
  have hD : va_D A [(h, .inr (9, [.ref b, .int 3])), (b, .inl (cy 0, 300, .inl g6))] := hD
  refine lv_iinc (v := 0) (lv' := [(2, .int 0), (0, .ref h), (1, .int n)]) hx hb dX9_addBytesOf_43 hl (k := 0) rfl (by decide) (by decide) rfl (fun ls hl => ?_)
  refine lv_goto (tgt := 3) hx hb dX9_addBytesOf_46 (by decide) ?_
  refine lv_iload_n hx hb dX9_addBytesOf_3 rfl (lv_at hl 0 rfl) ?_
  refine lv_if_lt (tgt := 49) hx hb dX9_addBytesOf_4 (by decide) (fun c9 => absurd c9 (by decide)) (fun _ => ?_)
  refine lv_aload_n hx hb dX9_addBytesOf_7 rfl (lv_at hl 1 rfl) ?_
  refine va_get (D := D) (ci := 9) (v := .int 3) (C := RX9) (T := TX9) (N := 2) hx hb hts iw_X9_addBytesOf_X9 hown hKX.1 hP 0 rfl rfl 1 (by decide) (hts (.fieldLink RX9 15 "TrainFerry$Tape" "size" "I") (by decide +kernel)) (fun _ h9 => h9) rfl dX9_addBytesOf_8 ?_
  refine lv_sipush (v := 300) hx hb dX9_addBytesOf_11 (by decide) ?_
  refine lv_icmp_ge (tgt := 49) hx hb dX9_addBytesOf_14 (by decide) (fun c9 => absurd c9 (by decide)) (fun _ => ?_)
  refine lv_aload_n hx hb dX9_addBytesOf_17 rfl (lv_at hl 1 rfl) ?_
  refine va_get (D := D) (ci := 9) (v := .ref b) (C := RX9) (T := TX9) (N := 2) hx hb hts iw_X9_addBytesOf_X9 hown hKX.1 hP 0 rfl rfl 0 (by decide) (hts (.fieldLink RX9 9 "TrainFerry$Tape" "bytes" "[I") (by decide +kernel)) (fun _ h9 => h9) rfl dX9_addBytesOf_18 ?_
  refine lv_aload_n hx hb dX9_addBytesOf_21 rfl (lv_at hl 1 rfl) ?_
  refine va_get (D := D) (ci := 9) (v := .int 3) (C := RX9) (T := TX9) (N := 2) hx hb hts iw_X9_addBytesOf_X9 hown hKX.1 hP 0 rfl rfl 1 (by decide) (hts (.fieldLink RX9 15 "TrainFerry$Tape" "size" "I") (by decide +kernel)) (fun _ h9 => h9) rfl dX9_addBytesOf_22 ?_
  refine lv_iload_n hx hb dX9_addBytesOf_25 rfl (lv_at hl 2 rfl) ?_
  refine lv_iload_n hx hb dX9_addBytesOf_26 rfl (lv_at hl 0 rfl) ?_
  refine lv_iushr (v := _) hx hb dX9_addBytesOf_27 rfl ?_
  refine lv_topi (fun z7 _ => ?_)
  refine lv_sipush (v := 255) hx hb dX9_addBytesOf_28 (by decide) ?_
  refine lv_iand hx hb dX9_addBytesOf_31 ?_
  refine va_iast hx hb hKX.1 hP hD hS 1 0 rfl rfl (vind (by decide)) dX9_addBytesOf_32 (fun H locs hP hD hS => ?_)
  have hP : va_P D vwCl [(h, .inr (9, [.ref b, .int 3])), (b, .inl (cy 0, 300, .inl (upd g6 (Int32.toNatClampNeg 3) (z7 &&& 255))))] H := hP
  have hD : va_D A [(h, .inr (9, [.ref b, .int 3])), (b, .inl (cy 0, 300, .inl (upd g6 (Int32.toNatClampNeg 3) (z7 &&& 255))))] := hD
  generalize upd g6 (Int32.toNatClampNeg 3) (z7 &&& 255) = g8 at hP hD
  refine lv_aload_n hx hb dX9_addBytesOf_33 rfl (lv_at hl 1 rfl) ?_
  refine lv_dup hx hb dX9_addBytesOf_34 rfl ?_
  refine va_get (D := D) (ci := 9) (v := .int 3) (C := RX9) (T := TX9) (N := 2) hx hb hts iw_X9_addBytesOf_X9 hown hKX.1 hP 0 rfl rfl 1 (by decide) (hts (.fieldLink RX9 15 "TrainFerry$Tape" "size" "I") (by decide +kernel)) (fun _ h9 => h9) rfl dX9_addBytesOf_35 ?_
  refine lv_iconst (v := 1) hx hb dX9_addBytesOf_38 (by decide) ?_
  refine lv_iadd hx hb dX9_addBytesOf_39 ?_
  refine lv_cst 4 (by decide) ?_
  refine va_put (D := D) (ci := 9) (v := .int 4) (ty := .int) (C := RX9) (T := TX9) (N := 2) hx hb hts iw_X9_addBytesOf_X9 tyX9 tyX9_ok nmX9 hown hKX.1 hP hD hS 0 rfl rfl 1 (by decide) (hts (.fieldLink RX9 15 "TrainFerry$Tape" "size" "I") (by decide +kernel)) (fun _ h9 => h9) rfl (by decide +kernel) rfl rfl (Nat.le_of_ble_eq_true rfl) dX9_addBytesOf_40 (fun H locs hP hD hS => ?_)
  have hP : va_P D vwCl [(h, .inr (9, [.ref b, .int 4])), (b, .inl (cy 0, 300, .inl g8))] H := hP
  have hD : va_D A [(h, .inr (9, [.ref b, .int 4])), (b, .inl (cy 0, 300, .inl g8))] := hD
  refine lv_iinc (v := (-8)) (lv' := [(2, .int (-8)), (0, .ref h), (1, .int n)]) hx hb dX9_addBytesOf_43 hl (k := 0) rfl (by decide) (by decide) rfl (fun ls hl => ?_)
  refine lv_goto (tgt := 3) hx hb dX9_addBytesOf_46 (by decide) ?_
  refine lv_iload_n hx hb dX9_addBytesOf_3 rfl (lv_at hl 0 rfl) ?_
  refine lv_if_lt (tgt := 49) hx hb dX9_addBytesOf_4 (by decide) (fun _ => ?_) (fun c9 => absurd (by decide) c9)
  exact en_v hx hb hr hlocks g8 trivial (hP.sub [0, 1] rfl) (hD.sub [0, 1] (by decide) rfl) hS (Nat.le_of_ble_eq_true rfl) (Nat.le_of_ble_eq_true rfl) dX9_addBytesOf_49
set_option maxHeartbeats 4000000 in
set_option maxRecDepth 100000 in
theorem c_addBytes_4 (l : Launch) (D : va_G) (cy : Nat → ClassId) (h : Nat) (b : Nat) (f : Nat → Int32) (n : Int32) (sz : Nat) : Met l yX9_addBytesOf wsX9_addBytesOf ({ frames := 0, cells := 0, slots := 0, locals := 0 }) (wPre D cy [.ref h, .int n] sz [(h, .inr (9, [.ref b, .int 4])), (b, .inl (cy 0, 300, .inl f))]) (wQv D (fun _ : (Nat → Int32) => True) (fun u : (Nat → Int32) => [(h, .inr (9, [.ref b, .int 8])), (b, .inl (cy 0, 300, .inl u))]) (va_A [(h, .inr (9, [.ref b, .int 4])), (b, .inl (cy 0, 300, .inl f))] sz)) 0 0 (va_A [(h, .inr (9, [.ref b, .int 4])), (b, .inl (cy 0, 300, .inl f))] sz) := by
  refine met_go (y := yX9_addBytesOf) (ws := wsX9_addBytesOf) (av := [.ref h, .int n]) (cc := cX9_addBytesOf) (maxL := 3) (ret := none) (Qc := fun A => wQv D (fun _ : (Nat → Int32) => True) (fun u : (Nat → Int32) => [(h, .inr (9, [.ref b, .int 8])), (b, .inl (cy 0, 300, .inl u))]) A) (by decide) rfl (Nat.le_of_ble_eq_true rfl) ?_
  intro p e s m below meth c ls A hx hb hr hml hown hts hlocks hname hKX hP hD hA hS hl
  have hown : s.vm.findClass RX9 = some m.cls := hown
  have hl : lv_has ls 3 [(0, .ref h), (1, .int n)] := hl
  refine lv_bipush (v := 24) hx hb dX9_addBytesOf_0 (by decide) ?_
  refine lv_istore_n (lv' := [(2, .int 24), (0, .ref h), (1, .int n)]) hx hb dX9_addBytesOf_2 rfl hl (by decide) rfl (fun ls hl => ?_)
  refine lv_iload_n hx hb dX9_addBytesOf_3 rfl (lv_at hl 0 rfl) ?_
  refine lv_if_lt (tgt := 49) hx hb dX9_addBytesOf_4 (by decide) (fun c9 => absurd c9 (by decide)) (fun _ => ?_)
  refine lv_aload_n hx hb dX9_addBytesOf_7 rfl (lv_at hl 1 rfl) ?_
  refine va_get (D := D) (ci := 9) (v := .int 4) (C := RX9) (T := TX9) (N := 2) hx hb hts iw_X9_addBytesOf_X9 hown hKX.1 hP 0 rfl rfl 1 (by decide) (hts (.fieldLink RX9 15 "TrainFerry$Tape" "size" "I") (by decide +kernel)) (fun _ h9 => h9) rfl dX9_addBytesOf_8 ?_
  refine lv_sipush (v := 300) hx hb dX9_addBytesOf_11 (by decide) ?_
  refine lv_icmp_ge (tgt := 49) hx hb dX9_addBytesOf_14 (by decide) (fun c9 => absurd c9 (by decide)) (fun _ => ?_)
  refine lv_aload_n hx hb dX9_addBytesOf_17 rfl (lv_at hl 1 rfl) ?_
  refine va_get (D := D) (ci := 9) (v := .ref b) (C := RX9) (T := TX9) (N := 2) hx hb hts iw_X9_addBytesOf_X9 hown hKX.1 hP 0 rfl rfl 0 (by decide) (hts (.fieldLink RX9 9 "TrainFerry$Tape" "bytes" "[I") (by decide +kernel)) (fun _ h9 => h9) rfl dX9_addBytesOf_18 ?_
  refine lv_aload_n hx hb dX9_addBytesOf_21 rfl (lv_at hl 1 rfl) ?_
  refine va_get (D := D) (ci := 9) (v := .int 4) (C := RX9) (T := TX9) (N := 2) hx hb hts iw_X9_addBytesOf_X9 hown hKX.1 hP 0 rfl rfl 1 (by decide) (hts (.fieldLink RX9 15 "TrainFerry$Tape" "size" "I") (by decide +kernel)) (fun _ h9 => h9) rfl dX9_addBytesOf_22 ?_
  refine lv_iload_n hx hb dX9_addBytesOf_25 rfl (lv_at hl 2 rfl) ?_
  refine lv_iload_n hx hb dX9_addBytesOf_26 rfl (lv_at hl 0 rfl) ?_
  refine lv_iushr (v := _) hx hb dX9_addBytesOf_27 rfl ?_
  refine lv_topi (fun z1 _ => ?_)
  refine lv_sipush (v := 255) hx hb dX9_addBytesOf_28 (by decide) ?_
  refine lv_iand hx hb dX9_addBytesOf_31 ?_
  refine va_iast hx hb hKX.1 hP hD hS 1 0 rfl rfl (vind (by decide)) dX9_addBytesOf_32 (fun H locs hP hD hS => ?_)
  have hP : va_P D vwCl [(h, .inr (9, [.ref b, .int 4])), (b, .inl (cy 0, 300, .inl (upd f (Int32.toNatClampNeg 4) (z1 &&& 255))))] H := hP
  have hD : va_D A [(h, .inr (9, [.ref b, .int 4])), (b, .inl (cy 0, 300, .inl (upd f (Int32.toNatClampNeg 4) (z1 &&& 255))))] := hD
  generalize upd f (Int32.toNatClampNeg 4) (z1 &&& 255) = g2 at hP hD
  refine lv_aload_n hx hb dX9_addBytesOf_33 rfl (lv_at hl 1 rfl) ?_
  refine lv_dup hx hb dX9_addBytesOf_34 rfl ?_
  refine va_get (D := D) (ci := 9) (v := .int 4) (C := RX9) (T := TX9) (N := 2) hx hb hts iw_X9_addBytesOf_X9 hown hKX.1 hP 0 rfl rfl 1 (by decide) (hts (.fieldLink RX9 15 "TrainFerry$Tape" "size" "I") (by decide +kernel)) (fun _ h9 => h9) rfl dX9_addBytesOf_35 ?_
  refine lv_iconst (v := 1) hx hb dX9_addBytesOf_38 (by decide) ?_
  refine lv_iadd hx hb dX9_addBytesOf_39 ?_
  refine lv_cst 5 (by decide) ?_
  refine va_put (D := D) (ci := 9) (v := .int 5) (ty := .int) (C := RX9) (T := TX9) (N := 2) hx hb hts iw_X9_addBytesOf_X9 tyX9 tyX9_ok nmX9 hown hKX.1 hP hD hS 0 rfl rfl 1 (by decide) (hts (.fieldLink RX9 15 "TrainFerry$Tape" "size" "I") (by decide +kernel)) (fun _ h9 => h9) rfl (by decide +kernel) rfl rfl (Nat.le_of_ble_eq_true rfl) dX9_addBytesOf_40 (fun H locs hP hD hS => ?_)
  have hP : va_P D vwCl [(h, .inr (9, [.ref b, .int 5])), (b, .inl (cy 0, 300, .inl g2))] H := hP
  have hD : va_D A [(h, .inr (9, [.ref b, .int 5])), (b, .inl (cy 0, 300, .inl g2))] := hD
  refine lv_iinc (v := 16) (lv' := [(2, .int 16), (0, .ref h), (1, .int n)]) hx hb dX9_addBytesOf_43 hl (k := 0) rfl (by decide) (by decide) rfl (fun ls hl => ?_)
  refine lv_goto (tgt := 3) hx hb dX9_addBytesOf_46 (by decide) ?_
  refine lv_iload_n hx hb dX9_addBytesOf_3 rfl (lv_at hl 0 rfl) ?_
  refine lv_if_lt (tgt := 49) hx hb dX9_addBytesOf_4 (by decide) (fun c9 => absurd c9 (by decide)) (fun _ => ?_)
  refine lv_aload_n hx hb dX9_addBytesOf_7 rfl (lv_at hl 1 rfl) ?_
  refine va_get (D := D) (ci := 9) (v := .int 5) (C := RX9) (T := TX9) (N := 2) hx hb hts iw_X9_addBytesOf_X9 hown hKX.1 hP 0 rfl rfl 1 (by decide) (hts (.fieldLink RX9 15 "TrainFerry$Tape" "size" "I") (by decide +kernel)) (fun _ h9 => h9) rfl dX9_addBytesOf_8 ?_
  refine lv_sipush (v := 300) hx hb dX9_addBytesOf_11 (by decide) ?_
  refine lv_icmp_ge (tgt := 49) hx hb dX9_addBytesOf_14 (by decide) (fun c9 => absurd c9 (by decide)) (fun _ => ?_)
  refine lv_aload_n hx hb dX9_addBytesOf_17 rfl (lv_at hl 1 rfl) ?_
  refine va_get (D := D) (ci := 9) (v := .ref b) (C := RX9) (T := TX9) (N := 2) hx hb hts iw_X9_addBytesOf_X9 hown hKX.1 hP 0 rfl rfl 0 (by decide) (hts (.fieldLink RX9 9 "TrainFerry$Tape" "bytes" "[I") (by decide +kernel)) (fun _ h9 => h9) rfl dX9_addBytesOf_18 ?_
  refine lv_aload_n hx hb dX9_addBytesOf_21 rfl (lv_at hl 1 rfl) ?_
  refine va_get (D := D) (ci := 9) (v := .int 5) (C := RX9) (T := TX9) (N := 2) hx hb hts iw_X9_addBytesOf_X9 hown hKX.1 hP 0 rfl rfl 1 (by decide) (hts (.fieldLink RX9 15 "TrainFerry$Tape" "size" "I") (by decide +kernel)) (fun _ h9 => h9) rfl dX9_addBytesOf_22 ?_
  refine lv_iload_n hx hb dX9_addBytesOf_25 rfl (lv_at hl 2 rfl) ?_
  refine lv_iload_n hx hb dX9_addBytesOf_26 rfl (lv_at hl 0 rfl) ?_
  refine lv_iushr (v := _) hx hb dX9_addBytesOf_27 rfl ?_
  refine lv_topi (fun z3 _ => ?_)
  refine lv_sipush (v := 255) hx hb dX9_addBytesOf_28 (by decide) ?_
  refine lv_iand hx hb dX9_addBytesOf_31 ?_
  refine va_iast hx hb hKX.1 hP hD hS 1 0 rfl rfl (vind (by decide)) dX9_addBytesOf_32 (fun H locs hP hD hS => ?_)
  have hP : va_P D vwCl [(h, .inr (9, [.ref b, .int 5])), (b, .inl (cy 0, 300, .inl (upd g2 (Int32.toNatClampNeg 5) (z3 &&& 255))))] H := hP
  have hD : va_D A [(h, .inr (9, [.ref b, .int 5])), (b, .inl (cy 0, 300, .inl (upd g2 (Int32.toNatClampNeg 5) (z3 &&& 255))))] := hD
  generalize upd g2 (Int32.toNatClampNeg 5) (z3 &&& 255) = g4 at hP hD
  refine lv_aload_n hx hb dX9_addBytesOf_33 rfl (lv_at hl 1 rfl) ?_
  refine lv_dup hx hb dX9_addBytesOf_34 rfl ?_
  refine va_get (D := D) (ci := 9) (v := .int 5) (C := RX9) (T := TX9) (N := 2) hx hb hts iw_X9_addBytesOf_X9 hown hKX.1 hP 0 rfl rfl 1 (by decide) (hts (.fieldLink RX9 15 "TrainFerry$Tape" "size" "I") (by decide +kernel)) (fun _ h9 => h9) rfl dX9_addBytesOf_35 ?_
  refine lv_iconst (v := 1) hx hb dX9_addBytesOf_38 (by decide) ?_
  refine lv_iadd hx hb dX9_addBytesOf_39 ?_
  refine lv_cst 6 (by decide) ?_
  refine va_put (D := D) (ci := 9) (v := .int 6) (ty := .int) (C := RX9) (T := TX9) (N := 2) hx hb hts iw_X9_addBytesOf_X9 tyX9 tyX9_ok nmX9 hown hKX.1 hP hD hS 0 rfl rfl 1 (by decide) (hts (.fieldLink RX9 15 "TrainFerry$Tape" "size" "I") (by decide +kernel)) (fun _ h9 => h9) rfl (by decide +kernel) rfl rfl (Nat.le_of_ble_eq_true rfl) dX9_addBytesOf_40 (fun H locs hP hD hS => ?_)
  have hP : va_P D vwCl [(h, .inr (9, [.ref b, .int 6])), (b, .inl (cy 0, 300, .inl g4))] H := hP
  have hD : va_D A [(h, .inr (9, [.ref b, .int 6])), (b, .inl (cy 0, 300, .inl g4))] := hD
  refine lv_iinc (v := 8) (lv' := [(2, .int 8), (0, .ref h), (1, .int n)]) hx hb dX9_addBytesOf_43 hl (k := 0) rfl (by decide) (by decide) rfl (fun ls hl => ?_)
  refine lv_goto (tgt := 3) hx hb dX9_addBytesOf_46 (by decide) ?_
  refine lv_iload_n hx hb dX9_addBytesOf_3 rfl (lv_at hl 0 rfl) ?_
  refine lv_if_lt (tgt := 49) hx hb dX9_addBytesOf_4 (by decide) (fun c9 => absurd c9 (by decide)) (fun _ => ?_)
  refine lv_aload_n hx hb dX9_addBytesOf_7 rfl (lv_at hl 1 rfl) ?_
  refine va_get (D := D) (ci := 9) (v := .int 6) (C := RX9) (T := TX9) (N := 2) hx hb hts iw_X9_addBytesOf_X9 hown hKX.1 hP 0 rfl rfl 1 (by decide) (hts (.fieldLink RX9 15 "TrainFerry$Tape" "size" "I") (by decide +kernel)) (fun _ h9 => h9) rfl dX9_addBytesOf_8 ?_
  refine lv_sipush (v := 300) hx hb dX9_addBytesOf_11 (by decide) ?_
  refine lv_icmp_ge (tgt := 49) hx hb dX9_addBytesOf_14 (by decide) (fun c9 => absurd c9 (by decide)) (fun _ => ?_)
  refine lv_aload_n hx hb dX9_addBytesOf_17 rfl (lv_at hl 1 rfl) ?_
  refine va_get (D := D) (ci := 9) (v := .ref b) (C := RX9) (T := TX9) (N := 2) hx hb hts iw_X9_addBytesOf_X9 hown hKX.1 hP 0 rfl rfl 0 (by decide) (hts (.fieldLink RX9 9 "TrainFerry$Tape" "bytes" "[I") (by decide +kernel)) (fun _ h9 => h9) rfl dX9_addBytesOf_18 ?_
  refine lv_aload_n hx hb dX9_addBytesOf_21 rfl (lv_at hl 1 rfl) ?_
  refine va_get (D := D) (ci := 9) (v := .int 6) (C := RX9) (T := TX9) (N := 2) hx hb hts iw_X9_addBytesOf_X9 hown hKX.1 hP 0 rfl rfl 1 (by decide) (hts (.fieldLink RX9 15 "TrainFerry$Tape" "size" "I") (by decide +kernel)) (fun _ h9 => h9) rfl dX9_addBytesOf_22 ?_
  refine lv_iload_n hx hb dX9_addBytesOf_25 rfl (lv_at hl 2 rfl) ?_
  refine lv_iload_n hx hb dX9_addBytesOf_26 rfl (lv_at hl 0 rfl) ?_
  refine lv_iushr (v := _) hx hb dX9_addBytesOf_27 rfl ?_
  refine lv_topi (fun z5 _ => ?_)
  refine lv_sipush (v := 255) hx hb dX9_addBytesOf_28 (by decide) ?_
  refine lv_iand hx hb dX9_addBytesOf_31 ?_
  refine va_iast hx hb hKX.1 hP hD hS 1 0 rfl rfl (vind (by decide)) dX9_addBytesOf_32 (fun H locs hP hD hS => ?_)
  have hP : va_P D vwCl [(h, .inr (9, [.ref b, .int 6])), (b, .inl (cy 0, 300, .inl (upd g4 (Int32.toNatClampNeg 6) (z5 &&& 255))))] H := hP
  have hD : va_D A [(h, .inr (9, [.ref b, .int 6])), (b, .inl (cy 0, 300, .inl (upd g4 (Int32.toNatClampNeg 6) (z5 &&& 255))))] := hD
  generalize upd g4 (Int32.toNatClampNeg 6) (z5 &&& 255) = g6 at hP hD
  refine lv_aload_n hx hb dX9_addBytesOf_33 rfl (lv_at hl 1 rfl) ?_
  refine lv_dup hx hb dX9_addBytesOf_34 rfl ?_
  refine va_get (D := D) (ci := 9) (v := .int 6) (C := RX9) (T := TX9) (N := 2) hx hb hts iw_X9_addBytesOf_X9 hown hKX.1 hP 0 rfl rfl 1 (by decide) (hts (.fieldLink RX9 15 "TrainFerry$Tape" "size" "I") (by decide +kernel)) (fun _ h9 => h9) rfl dX9_addBytesOf_35 ?_
  refine lv_iconst (v := 1) hx hb dX9_addBytesOf_38 (by decide) ?_
  refine lv_iadd hx hb dX9_addBytesOf_39 ?_
  refine lv_cst 7 (by decide) ?_
  refine va_put (D := D) (ci := 9) (v := .int 7) (ty := .int) (C := RX9) (T := TX9) (N := 2) hx hb hts iw_X9_addBytesOf_X9 tyX9 tyX9_ok nmX9 hown hKX.1 hP hD hS 0 rfl rfl 1 (by decide) (hts (.fieldLink RX9 15 "TrainFerry$Tape" "size" "I") (by decide +kernel)) (fun _ h9 => h9) rfl (by decide +kernel) rfl rfl (Nat.le_of_ble_eq_true rfl) dX9_addBytesOf_40 (fun H locs hP hD hS => ?_)
  have hP : va_P D vwCl [(h, .inr (9, [.ref b, .int 7])), (b, .inl (cy 0, 300, .inl g6))] H := hP
  have hD : va_D A [(h, .inr (9, [.ref b, .int 7])), (b, .inl (cy 0, 300, .inl g6))] := hD
  refine lv_iinc (v := 0) (lv' := [(2, .int 0), (0, .ref h), (1, .int n)]) hx hb dX9_addBytesOf_43 hl (k := 0) rfl (by decide) (by decide) rfl (fun ls hl => ?_)
  refine lv_goto (tgt := 3) hx hb dX9_addBytesOf_46 (by decide) ?_
  refine lv_iload_n hx hb dX9_addBytesOf_3 rfl (lv_at hl 0 rfl) ?_
  refine lv_if_lt (tgt := 49) hx hb dX9_addBytesOf_4 (by decide) (fun c9 => absurd c9 (by decide)) (fun _ => ?_)
  refine lv_aload_n hx hb dX9_addBytesOf_7 rfl (lv_at hl 1 rfl) ?_
  refine va_get (D := D) (ci := 9) (v := .int 7) (C := RX9) (T := TX9) (N := 2) hx hb hts iw_X9_addBytesOf_X9 hown hKX.1 hP 0 rfl rfl 1 (by decide) (hts (.fieldLink RX9 15 "TrainFerry$Tape" "size" "I") (by decide +kernel)) (fun _ h9 => h9) rfl dX9_addBytesOf_8 ?_
  refine lv_sipush (v := 300) hx hb dX9_addBytesOf_11 (by decide) ?_
  refine lv_icmp_ge (tgt := 49) hx hb dX9_addBytesOf_14 (by decide) (fun c9 => absurd c9 (by decide)) (fun _ => ?_)
  refine lv_aload_n hx hb dX9_addBytesOf_17 rfl (lv_at hl 1 rfl) ?_
  refine va_get (D := D) (ci := 9) (v := .ref b) (C := RX9) (T := TX9) (N := 2) hx hb hts iw_X9_addBytesOf_X9 hown hKX.1 hP 0 rfl rfl 0 (by decide) (hts (.fieldLink RX9 9 "TrainFerry$Tape" "bytes" "[I") (by decide +kernel)) (fun _ h9 => h9) rfl dX9_addBytesOf_18 ?_
  refine lv_aload_n hx hb dX9_addBytesOf_21 rfl (lv_at hl 1 rfl) ?_
  refine va_get (D := D) (ci := 9) (v := .int 7) (C := RX9) (T := TX9) (N := 2) hx hb hts iw_X9_addBytesOf_X9 hown hKX.1 hP 0 rfl rfl 1 (by decide) (hts (.fieldLink RX9 15 "TrainFerry$Tape" "size" "I") (by decide +kernel)) (fun _ h9 => h9) rfl dX9_addBytesOf_22 ?_
  refine lv_iload_n hx hb dX9_addBytesOf_25 rfl (lv_at hl 2 rfl) ?_
  refine lv_iload_n hx hb dX9_addBytesOf_26 rfl (lv_at hl 0 rfl) ?_
  refine lv_iushr (v := _) hx hb dX9_addBytesOf_27 rfl ?_
  refine lv_topi (fun z7 _ => ?_)
  refine lv_sipush (v := 255) hx hb dX9_addBytesOf_28 (by decide) ?_
  refine lv_iand hx hb dX9_addBytesOf_31 ?_
  refine va_iast hx hb hKX.1 hP hD hS 1 0 rfl rfl (vind (by decide)) dX9_addBytesOf_32 (fun H locs hP hD hS => ?_)
  have hP : va_P D vwCl [(h, .inr (9, [.ref b, .int 7])), (b, .inl (cy 0, 300, .inl (upd g6 (Int32.toNatClampNeg 7) (z7 &&& 255))))] H := hP
  have hD : va_D A [(h, .inr (9, [.ref b, .int 7])), (b, .inl (cy 0, 300, .inl (upd g6 (Int32.toNatClampNeg 7) (z7 &&& 255))))] := hD
  generalize upd g6 (Int32.toNatClampNeg 7) (z7 &&& 255) = g8 at hP hD
  refine lv_aload_n hx hb dX9_addBytesOf_33 rfl (lv_at hl 1 rfl) ?_
  refine lv_dup hx hb dX9_addBytesOf_34 rfl ?_
  refine va_get (D := D) (ci := 9) (v := .int 7) (C := RX9) (T := TX9) (N := 2) hx hb hts iw_X9_addBytesOf_X9 hown hKX.1 hP 0 rfl rfl 1 (by decide) (hts (.fieldLink RX9 15 "TrainFerry$Tape" "size" "I") (by decide +kernel)) (fun _ h9 => h9) rfl dX9_addBytesOf_35 ?_
  refine lv_iconst (v := 1) hx hb dX9_addBytesOf_38 (by decide) ?_
  refine lv_iadd hx hb dX9_addBytesOf_39 ?_
  refine lv_cst 8 (by decide) ?_
  refine va_put (D := D) (ci := 9) (v := .int 8) (ty := .int) (C := RX9) (T := TX9) (N := 2) hx hb hts iw_X9_addBytesOf_X9 tyX9 tyX9_ok nmX9 hown hKX.1 hP hD hS 0 rfl rfl 1 (by decide) (hts (.fieldLink RX9 15 "TrainFerry$Tape" "size" "I") (by decide +kernel)) (fun _ h9 => h9) rfl (by decide +kernel) rfl rfl (Nat.le_of_ble_eq_true rfl) dX9_addBytesOf_40 (fun H locs hP hD hS => ?_)
  have hP : va_P D vwCl [(h, .inr (9, [.ref b, .int 8])), (b, .inl (cy 0, 300, .inl g8))] H := hP
  have hD : va_D A [(h, .inr (9, [.ref b, .int 8])), (b, .inl (cy 0, 300, .inl g8))] := hD
  refine lv_iinc (v := (-8)) (lv' := [(2, .int (-8)), (0, .ref h), (1, .int n)]) hx hb dX9_addBytesOf_43 hl (k := 0) rfl (by decide) (by decide) rfl (fun ls hl => ?_)
  refine lv_goto (tgt := 3) hx hb dX9_addBytesOf_46 (by decide) ?_
  refine lv_iload_n hx hb dX9_addBytesOf_3 rfl (lv_at hl 0 rfl) ?_
  refine lv_if_lt (tgt := 49) hx hb dX9_addBytesOf_4 (by decide) (fun _ => ?_) (fun c9 => absurd (by decide) c9)
  exact en_v hx hb hr hlocks g8 trivial (hP.sub [0, 1] rfl) (hD.sub [0, 1] (by decide) rfl) hS (Nat.le_of_ble_eq_true rfl) (Nat.le_of_ble_eq_true rfl) dX9_addBytesOf_49
set_option maxHeartbeats 4000000 in
set_option maxRecDepth 100000 in
theorem c_addBytes_8 (l : Launch) (D : va_G) (cy : Nat → ClassId) (h : Nat) (b : Nat) (f : Nat → Int32) (n : Int32) (sz : Nat) : Met l yX9_addBytesOf wsX9_addBytesOf ({ frames := 0, cells := 0, slots := 0, locals := 0 }) (wPre D cy [.ref h, .int n] sz [(h, .inr (9, [.ref b, .int 8])), (b, .inl (cy 0, 300, .inl f))]) (wQv D (fun _ : (Nat → Int32) => True) (fun u : (Nat → Int32) => [(h, .inr (9, [.ref b, .int 12])), (b, .inl (cy 0, 300, .inl u))]) (va_A [(h, .inr (9, [.ref b, .int 8])), (b, .inl (cy 0, 300, .inl f))] sz)) 0 0 (va_A [(h, .inr (9, [.ref b, .int 8])), (b, .inl (cy 0, 300, .inl f))] sz) := by
  refine met_go (y := yX9_addBytesOf) (ws := wsX9_addBytesOf) (av := [.ref h, .int n]) (cc := cX9_addBytesOf) (maxL := 3) (ret := none) (Qc := fun A => wQv D (fun _ : (Nat → Int32) => True) (fun u : (Nat → Int32) => [(h, .inr (9, [.ref b, .int 12])), (b, .inl (cy 0, 300, .inl u))]) A) (by decide) rfl (Nat.le_of_ble_eq_true rfl) ?_
  intro p e s m below meth c ls A hx hb hr hml hown hts hlocks hname hKX hP hD hA hS hl
  have hown : s.vm.findClass RX9 = some m.cls := hown
  have hl : lv_has ls 3 [(0, .ref h), (1, .int n)] := hl
  refine lv_bipush (v := 24) hx hb dX9_addBytesOf_0 (by decide) ?_
  refine lv_istore_n (lv' := [(2, .int 24), (0, .ref h), (1, .int n)]) hx hb dX9_addBytesOf_2 rfl hl (by decide) rfl (fun ls hl => ?_)
  refine lv_iload_n hx hb dX9_addBytesOf_3 rfl (lv_at hl 0 rfl) ?_
  refine lv_if_lt (tgt := 49) hx hb dX9_addBytesOf_4 (by decide) (fun c9 => absurd c9 (by decide)) (fun _ => ?_)
  refine lv_aload_n hx hb dX9_addBytesOf_7 rfl (lv_at hl 1 rfl) ?_
  refine va_get (D := D) (ci := 9) (v := .int 8) (C := RX9) (T := TX9) (N := 2) hx hb hts iw_X9_addBytesOf_X9 hown hKX.1 hP 0 rfl rfl 1 (by decide) (hts (.fieldLink RX9 15 "TrainFerry$Tape" "size" "I") (by decide +kernel)) (fun _ h9 => h9) rfl dX9_addBytesOf_8 ?_
  refine lv_sipush (v := 300) hx hb dX9_addBytesOf_11 (by decide) ?_
  refine lv_icmp_ge (tgt := 49) hx hb dX9_addBytesOf_14 (by decide) (fun c9 => absurd c9 (by decide)) (fun _ => ?_)
  refine lv_aload_n hx hb dX9_addBytesOf_17 rfl (lv_at hl 1 rfl) ?_
  refine va_get (D := D) (ci := 9) (v := .ref b) (C := RX9) (T := TX9) (N := 2) hx hb hts iw_X9_addBytesOf_X9 hown hKX.1 hP 0 rfl rfl 0 (by decide) (hts (.fieldLink RX9 9 "TrainFerry$Tape" "bytes" "[I") (by decide +kernel)) (fun _ h9 => h9) rfl dX9_addBytesOf_18 ?_
  refine lv_aload_n hx hb dX9_addBytesOf_21 rfl (lv_at hl 1 rfl) ?_
  refine va_get (D := D) (ci := 9) (v := .int 8) (C := RX9) (T := TX9) (N := 2) hx hb hts iw_X9_addBytesOf_X9 hown hKX.1 hP 0 rfl rfl 1 (by decide) (hts (.fieldLink RX9 15 "TrainFerry$Tape" "size" "I") (by decide +kernel)) (fun _ h9 => h9) rfl dX9_addBytesOf_22 ?_
  refine lv_iload_n hx hb dX9_addBytesOf_25 rfl (lv_at hl 2 rfl) ?_
  refine lv_iload_n hx hb dX9_addBytesOf_26 rfl (lv_at hl 0 rfl) ?_
  refine lv_iushr (v := _) hx hb dX9_addBytesOf_27 rfl ?_
  refine lv_topi (fun z1 _ => ?_)
  refine lv_sipush (v := 255) hx hb dX9_addBytesOf_28 (by decide) ?_
  refine lv_iand hx hb dX9_addBytesOf_31 ?_
  refine va_iast hx hb hKX.1 hP hD hS 1 0 rfl rfl (vind (by decide)) dX9_addBytesOf_32 (fun H locs hP hD hS => ?_)
  have hP : va_P D vwCl [(h, .inr (9, [.ref b, .int 8])), (b, .inl (cy 0, 300, .inl (upd f (Int32.toNatClampNeg 8) (z1 &&& 255))))] H := hP
  have hD : va_D A [(h, .inr (9, [.ref b, .int 8])), (b, .inl (cy 0, 300, .inl (upd f (Int32.toNatClampNeg 8) (z1 &&& 255))))] := hD
  generalize upd f (Int32.toNatClampNeg 8) (z1 &&& 255) = g2 at hP hD
  refine lv_aload_n hx hb dX9_addBytesOf_33 rfl (lv_at hl 1 rfl) ?_
  refine lv_dup hx hb dX9_addBytesOf_34 rfl ?_
  refine va_get (D := D) (ci := 9) (v := .int 8) (C := RX9) (T := TX9) (N := 2) hx hb hts iw_X9_addBytesOf_X9 hown hKX.1 hP 0 rfl rfl 1 (by decide) (hts (.fieldLink RX9 15 "TrainFerry$Tape" "size" "I") (by decide +kernel)) (fun _ h9 => h9) rfl dX9_addBytesOf_35 ?_
  refine lv_iconst (v := 1) hx hb dX9_addBytesOf_38 (by decide) ?_
  refine lv_iadd hx hb dX9_addBytesOf_39 ?_
  refine lv_cst 9 (by decide) ?_
  refine va_put (D := D) (ci := 9) (v := .int 9) (ty := .int) (C := RX9) (T := TX9) (N := 2) hx hb hts iw_X9_addBytesOf_X9 tyX9 tyX9_ok nmX9 hown hKX.1 hP hD hS 0 rfl rfl 1 (by decide) (hts (.fieldLink RX9 15 "TrainFerry$Tape" "size" "I") (by decide +kernel)) (fun _ h9 => h9) rfl (by decide +kernel) rfl rfl (Nat.le_of_ble_eq_true rfl) dX9_addBytesOf_40 (fun H locs hP hD hS => ?_)
  have hP : va_P D vwCl [(h, .inr (9, [.ref b, .int 9])), (b, .inl (cy 0, 300, .inl g2))] H := hP
  have hD : va_D A [(h, .inr (9, [.ref b, .int 9])), (b, .inl (cy 0, 300, .inl g2))] := hD
  refine lv_iinc (v := 16) (lv' := [(2, .int 16), (0, .ref h), (1, .int n)]) hx hb dX9_addBytesOf_43 hl (k := 0) rfl (by decide) (by decide) rfl (fun ls hl => ?_)
  refine lv_goto (tgt := 3) hx hb dX9_addBytesOf_46 (by decide) ?_
  refine lv_iload_n hx hb dX9_addBytesOf_3 rfl (lv_at hl 0 rfl) ?_
  refine lv_if_lt (tgt := 49) hx hb dX9_addBytesOf_4 (by decide) (fun c9 => absurd c9 (by decide)) (fun _ => ?_)
  refine lv_aload_n hx hb dX9_addBytesOf_7 rfl (lv_at hl 1 rfl) ?_
  refine va_get (D := D) (ci := 9) (v := .int 9) (C := RX9) (T := TX9) (N := 2) hx hb hts iw_X9_addBytesOf_X9 hown hKX.1 hP 0 rfl rfl 1 (by decide) (hts (.fieldLink RX9 15 "TrainFerry$Tape" "size" "I") (by decide +kernel)) (fun _ h9 => h9) rfl dX9_addBytesOf_8 ?_
  refine lv_sipush (v := 300) hx hb dX9_addBytesOf_11 (by decide) ?_
  refine lv_icmp_ge (tgt := 49) hx hb dX9_addBytesOf_14 (by decide) (fun c9 => absurd c9 (by decide)) (fun _ => ?_)
  refine lv_aload_n hx hb dX9_addBytesOf_17 rfl (lv_at hl 1 rfl) ?_
  refine va_get (D := D) (ci := 9) (v := .ref b) (C := RX9) (T := TX9) (N := 2) hx hb hts iw_X9_addBytesOf_X9 hown hKX.1 hP 0 rfl rfl 0 (by decide) (hts (.fieldLink RX9 9 "TrainFerry$Tape" "bytes" "[I") (by decide +kernel)) (fun _ h9 => h9) rfl dX9_addBytesOf_18 ?_
  refine lv_aload_n hx hb dX9_addBytesOf_21 rfl (lv_at hl 1 rfl) ?_
  refine va_get (D := D) (ci := 9) (v := .int 9) (C := RX9) (T := TX9) (N := 2) hx hb hts iw_X9_addBytesOf_X9 hown hKX.1 hP 0 rfl rfl 1 (by decide) (hts (.fieldLink RX9 15 "TrainFerry$Tape" "size" "I") (by decide +kernel)) (fun _ h9 => h9) rfl dX9_addBytesOf_22 ?_
  refine lv_iload_n hx hb dX9_addBytesOf_25 rfl (lv_at hl 2 rfl) ?_
  refine lv_iload_n hx hb dX9_addBytesOf_26 rfl (lv_at hl 0 rfl) ?_
  refine lv_iushr (v := _) hx hb dX9_addBytesOf_27 rfl ?_
  refine lv_topi (fun z3 _ => ?_)
  refine lv_sipush (v := 255) hx hb dX9_addBytesOf_28 (by decide) ?_
  refine lv_iand hx hb dX9_addBytesOf_31 ?_
  refine va_iast hx hb hKX.1 hP hD hS 1 0 rfl rfl (vind (by decide)) dX9_addBytesOf_32 (fun H locs hP hD hS => ?_)
  have hP : va_P D vwCl [(h, .inr (9, [.ref b, .int 9])), (b, .inl (cy 0, 300, .inl (upd g2 (Int32.toNatClampNeg 9) (z3 &&& 255))))] H := hP
  have hD : va_D A [(h, .inr (9, [.ref b, .int 9])), (b, .inl (cy 0, 300, .inl (upd g2 (Int32.toNatClampNeg 9) (z3 &&& 255))))] := hD
  generalize upd g2 (Int32.toNatClampNeg 9) (z3 &&& 255) = g4 at hP hD
  refine lv_aload_n hx hb dX9_addBytesOf_33 rfl (lv_at hl 1 rfl) ?_
  refine lv_dup hx hb dX9_addBytesOf_34 rfl ?_
  refine va_get (D := D) (ci := 9) (v := .int 9) (C := RX9) (T := TX9) (N := 2) hx hb hts iw_X9_addBytesOf_X9 hown hKX.1 hP 0 rfl rfl 1 (by decide) (hts (.fieldLink RX9 15 "TrainFerry$Tape" "size" "I") (by decide +kernel)) (fun _ h9 => h9) rfl dX9_addBytesOf_35 ?_
  refine lv_iconst (v := 1) hx hb dX9_addBytesOf_38 (by decide) ?_
  refine lv_iadd hx hb dX9_addBytesOf_39 ?_
  refine lv_cst 10 (by decide) ?_
  refine va_put (D := D) (ci := 9) (v := .int 10) (ty := .int) (C := RX9) (T := TX9) (N := 2) hx hb hts iw_X9_addBytesOf_X9 tyX9 tyX9_ok nmX9 hown hKX.1 hP hD hS 0 rfl rfl 1 (by decide) (hts (.fieldLink RX9 15 "TrainFerry$Tape" "size" "I") (by decide +kernel)) (fun _ h9 => h9) rfl (by decide +kernel) rfl rfl (Nat.le_of_ble_eq_true rfl) dX9_addBytesOf_40 (fun H locs hP hD hS => ?_)
  have hP : va_P D vwCl [(h, .inr (9, [.ref b, .int 10])), (b, .inl (cy 0, 300, .inl g4))] H := hP
  have hD : va_D A [(h, .inr (9, [.ref b, .int 10])), (b, .inl (cy 0, 300, .inl g4))] := hD
  refine lv_iinc (v := 8) (lv' := [(2, .int 8), (0, .ref h), (1, .int n)]) hx hb dX9_addBytesOf_43 hl (k := 0) rfl (by decide) (by decide) rfl (fun ls hl => ?_)
  refine lv_goto (tgt := 3) hx hb dX9_addBytesOf_46 (by decide) ?_
  refine lv_iload_n hx hb dX9_addBytesOf_3 rfl (lv_at hl 0 rfl) ?_
  refine lv_if_lt (tgt := 49) hx hb dX9_addBytesOf_4 (by decide) (fun c9 => absurd c9 (by decide)) (fun _ => ?_)
  refine lv_aload_n hx hb dX9_addBytesOf_7 rfl (lv_at hl 1 rfl) ?_
  refine va_get (D := D) (ci := 9) (v := .int 10) (C := RX9) (T := TX9) (N := 2) hx hb hts iw_X9_addBytesOf_X9 hown hKX.1 hP 0 rfl rfl 1 (by decide) (hts (.fieldLink RX9 15 "TrainFerry$Tape" "size" "I") (by decide +kernel)) (fun _ h9 => h9) rfl dX9_addBytesOf_8 ?_
  refine lv_sipush (v := 300) hx hb dX9_addBytesOf_11 (by decide) ?_
  refine lv_icmp_ge (tgt := 49) hx hb dX9_addBytesOf_14 (by decide) (fun c9 => absurd c9 (by decide)) (fun _ => ?_)
  refine lv_aload_n hx hb dX9_addBytesOf_17 rfl (lv_at hl 1 rfl) ?_
  refine va_get (D := D) (ci := 9) (v := .ref b) (C := RX9) (T := TX9) (N := 2) hx hb hts iw_X9_addBytesOf_X9 hown hKX.1 hP 0 rfl rfl 0 (by decide) (hts (.fieldLink RX9 9 "TrainFerry$Tape" "bytes" "[I") (by decide +kernel)) (fun _ h9 => h9) rfl dX9_addBytesOf_18 ?_
  refine lv_aload_n hx hb dX9_addBytesOf_21 rfl (lv_at hl 1 rfl) ?_
  refine va_get (D := D) (ci := 9) (v := .int 10) (C := RX9) (T := TX9) (N := 2) hx hb hts iw_X9_addBytesOf_X9 hown hKX.1 hP 0 rfl rfl 1 (by decide) (hts (.fieldLink RX9 15 "TrainFerry$Tape" "size" "I") (by decide +kernel)) (fun _ h9 => h9) rfl dX9_addBytesOf_22 ?_
  refine lv_iload_n hx hb dX9_addBytesOf_25 rfl (lv_at hl 2 rfl) ?_
  refine lv_iload_n hx hb dX9_addBytesOf_26 rfl (lv_at hl 0 rfl) ?_
  refine lv_iushr (v := _) hx hb dX9_addBytesOf_27 rfl ?_
  refine lv_topi (fun z5 _ => ?_)
  refine lv_sipush (v := 255) hx hb dX9_addBytesOf_28 (by decide) ?_
  refine lv_iand hx hb dX9_addBytesOf_31 ?_
  refine va_iast hx hb hKX.1 hP hD hS 1 0 rfl rfl (vind (by decide)) dX9_addBytesOf_32 (fun H locs hP hD hS => ?_)
  have hP : va_P D vwCl [(h, .inr (9, [.ref b, .int 10])), (b, .inl (cy 0, 300, .inl (upd g4 (Int32.toNatClampNeg 10) (z5 &&& 255))))] H := hP
  have hD : va_D A [(h, .inr (9, [.ref b, .int 10])), (b, .inl (cy 0, 300, .inl (upd g4 (Int32.toNatClampNeg 10) (z5 &&& 255))))] := hD
  generalize upd g4 (Int32.toNatClampNeg 10) (z5 &&& 255) = g6 at hP hD
  refine lv_aload_n hx hb dX9_addBytesOf_33 rfl (lv_at hl 1 rfl) ?_
  refine lv_dup hx hb dX9_addBytesOf_34 rfl ?_
  refine va_get (D := D) (ci := 9) (v := .int 10) (C := RX9) (T := TX9) (N := 2) hx hb hts iw_X9_addBytesOf_X9 hown hKX.1 hP 0 rfl rfl 1 (by decide) (hts (.fieldLink RX9 15 "TrainFerry$Tape" "size" "I") (by decide +kernel)) (fun _ h9 => h9) rfl dX9_addBytesOf_35 ?_
  refine lv_iconst (v := 1) hx hb dX9_addBytesOf_38 (by decide) ?_
  refine lv_iadd hx hb dX9_addBytesOf_39 ?_
  refine lv_cst 11 (by decide) ?_
  refine va_put (D := D) (ci := 9) (v := .int 11) (ty := .int) (C := RX9) (T := TX9) (N := 2) hx hb hts iw_X9_addBytesOf_X9 tyX9 tyX9_ok nmX9 hown hKX.1 hP hD hS 0 rfl rfl 1 (by decide) (hts (.fieldLink RX9 15 "TrainFerry$Tape" "size" "I") (by decide +kernel)) (fun _ h9 => h9) rfl (by decide +kernel) rfl rfl (Nat.le_of_ble_eq_true rfl) dX9_addBytesOf_40 (fun H locs hP hD hS => ?_)
  have hP : va_P D vwCl [(h, .inr (9, [.ref b, .int 11])), (b, .inl (cy 0, 300, .inl g6))] H := hP
  have hD : va_D A [(h, .inr (9, [.ref b, .int 11])), (b, .inl (cy 0, 300, .inl g6))] := hD
  refine lv_iinc (v := 0) (lv' := [(2, .int 0), (0, .ref h), (1, .int n)]) hx hb dX9_addBytesOf_43 hl (k := 0) rfl (by decide) (by decide) rfl (fun ls hl => ?_)
  refine lv_goto (tgt := 3) hx hb dX9_addBytesOf_46 (by decide) ?_
  refine lv_iload_n hx hb dX9_addBytesOf_3 rfl (lv_at hl 0 rfl) ?_
  refine lv_if_lt (tgt := 49) hx hb dX9_addBytesOf_4 (by decide) (fun c9 => absurd c9 (by decide)) (fun _ => ?_)
  refine lv_aload_n hx hb dX9_addBytesOf_7 rfl (lv_at hl 1 rfl) ?_
  refine va_get (D := D) (ci := 9) (v := .int 11) (C := RX9) (T := TX9) (N := 2) hx hb hts iw_X9_addBytesOf_X9 hown hKX.1 hP 0 rfl rfl 1 (by decide) (hts (.fieldLink RX9 15 "TrainFerry$Tape" "size" "I") (by decide +kernel)) (fun _ h9 => h9) rfl dX9_addBytesOf_8 ?_
  refine lv_sipush (v := 300) hx hb dX9_addBytesOf_11 (by decide) ?_
  refine lv_icmp_ge (tgt := 49) hx hb dX9_addBytesOf_14 (by decide) (fun c9 => absurd c9 (by decide)) (fun _ => ?_)
  refine lv_aload_n hx hb dX9_addBytesOf_17 rfl (lv_at hl 1 rfl) ?_
  refine va_get (D := D) (ci := 9) (v := .ref b) (C := RX9) (T := TX9) (N := 2) hx hb hts iw_X9_addBytesOf_X9 hown hKX.1 hP 0 rfl rfl 0 (by decide) (hts (.fieldLink RX9 9 "TrainFerry$Tape" "bytes" "[I") (by decide +kernel)) (fun _ h9 => h9) rfl dX9_addBytesOf_18 ?_
  refine lv_aload_n hx hb dX9_addBytesOf_21 rfl (lv_at hl 1 rfl) ?_
  refine va_get (D := D) (ci := 9) (v := .int 11) (C := RX9) (T := TX9) (N := 2) hx hb hts iw_X9_addBytesOf_X9 hown hKX.1 hP 0 rfl rfl 1 (by decide) (hts (.fieldLink RX9 15 "TrainFerry$Tape" "size" "I") (by decide +kernel)) (fun _ h9 => h9) rfl dX9_addBytesOf_22 ?_
  refine lv_iload_n hx hb dX9_addBytesOf_25 rfl (lv_at hl 2 rfl) ?_
  refine lv_iload_n hx hb dX9_addBytesOf_26 rfl (lv_at hl 0 rfl) ?_
  refine lv_iushr (v := _) hx hb dX9_addBytesOf_27 rfl ?_
  refine lv_topi (fun z7 _ => ?_)
  refine lv_sipush (v := 255) hx hb dX9_addBytesOf_28 (by decide) ?_
  refine lv_iand hx hb dX9_addBytesOf_31 ?_
  refine va_iast hx hb hKX.1 hP hD hS 1 0 rfl rfl (vind (by decide)) dX9_addBytesOf_32 (fun H locs hP hD hS => ?_)
  have hP : va_P D vwCl [(h, .inr (9, [.ref b, .int 11])), (b, .inl (cy 0, 300, .inl (upd g6 (Int32.toNatClampNeg 11) (z7 &&& 255))))] H := hP
  have hD : va_D A [(h, .inr (9, [.ref b, .int 11])), (b, .inl (cy 0, 300, .inl (upd g6 (Int32.toNatClampNeg 11) (z7 &&& 255))))] := hD
  generalize upd g6 (Int32.toNatClampNeg 11) (z7 &&& 255) = g8 at hP hD
  refine lv_aload_n hx hb dX9_addBytesOf_33 rfl (lv_at hl 1 rfl) ?_
  refine lv_dup hx hb dX9_addBytesOf_34 rfl ?_
  refine va_get (D := D) (ci := 9) (v := .int 11) (C := RX9) (T := TX9) (N := 2) hx hb hts iw_X9_addBytesOf_X9 hown hKX.1 hP 0 rfl rfl 1 (by decide) (hts (.fieldLink RX9 15 "TrainFerry$Tape" "size" "I") (by decide +kernel)) (fun _ h9 => h9) rfl dX9_addBytesOf_35 ?_
  refine lv_iconst (v := 1) hx hb dX9_addBytesOf_38 (by decide) ?_
  refine lv_iadd hx hb dX9_addBytesOf_39 ?_
  refine lv_cst 12 (by decide) ?_
  refine va_put (D := D) (ci := 9) (v := .int 12) (ty := .int) (C := RX9) (T := TX9) (N := 2) hx hb hts iw_X9_addBytesOf_X9 tyX9 tyX9_ok nmX9 hown hKX.1 hP hD hS 0 rfl rfl 1 (by decide) (hts (.fieldLink RX9 15 "TrainFerry$Tape" "size" "I") (by decide +kernel)) (fun _ h9 => h9) rfl (by decide +kernel) rfl rfl (Nat.le_of_ble_eq_true rfl) dX9_addBytesOf_40 (fun H locs hP hD hS => ?_)
  have hP : va_P D vwCl [(h, .inr (9, [.ref b, .int 12])), (b, .inl (cy 0, 300, .inl g8))] H := hP
  have hD : va_D A [(h, .inr (9, [.ref b, .int 12])), (b, .inl (cy 0, 300, .inl g8))] := hD
  refine lv_iinc (v := (-8)) (lv' := [(2, .int (-8)), (0, .ref h), (1, .int n)]) hx hb dX9_addBytesOf_43 hl (k := 0) rfl (by decide) (by decide) rfl (fun ls hl => ?_)
  refine lv_goto (tgt := 3) hx hb dX9_addBytesOf_46 (by decide) ?_
  refine lv_iload_n hx hb dX9_addBytesOf_3 rfl (lv_at hl 0 rfl) ?_
  refine lv_if_lt (tgt := 49) hx hb dX9_addBytesOf_4 (by decide) (fun _ => ?_) (fun c9 => absurd (by decide) c9)
  exact en_v hx hb hr hlocks g8 trivial (hP.sub [0, 1] rfl) (hD.sub [0, 1] (by decide) rfl) hS (Nat.le_of_ble_eq_true rfl) (Nat.le_of_ble_eq_true rfl) dX9_addBytesOf_49
set_option maxHeartbeats 4000000 in
set_option maxRecDepth 100000 in
theorem c_addBytes_12 (l : Launch) (D : va_G) (cy : Nat → ClassId) (h : Nat) (b : Nat) (f : Nat → Int32) (n : Int32) (sz : Nat) : Met l yX9_addBytesOf wsX9_addBytesOf ({ frames := 0, cells := 0, slots := 0, locals := 0 }) (wPre D cy [.ref h, .int n] sz [(h, .inr (9, [.ref b, .int 12])), (b, .inl (cy 0, 300, .inl f))]) (wQv D (fun _ : (Nat → Int32) => True) (fun u : (Nat → Int32) => [(h, .inr (9, [.ref b, .int 16])), (b, .inl (cy 0, 300, .inl u))]) (va_A [(h, .inr (9, [.ref b, .int 12])), (b, .inl (cy 0, 300, .inl f))] sz)) 0 0 (va_A [(h, .inr (9, [.ref b, .int 12])), (b, .inl (cy 0, 300, .inl f))] sz) := by
  refine met_go (y := yX9_addBytesOf) (ws := wsX9_addBytesOf) (av := [.ref h, .int n]) (cc := cX9_addBytesOf) (maxL := 3) (ret := none) (Qc := fun A => wQv D (fun _ : (Nat → Int32) => True) (fun u : (Nat → Int32) => [(h, .inr (9, [.ref b, .int 16])), (b, .inl (cy 0, 300, .inl u))]) A) (by decide) rfl (Nat.le_of_ble_eq_true rfl) ?_
  intro p e s m below meth c ls A hx hb hr hml hown hts hlocks hname hKX hP hD hA hS hl
  have hown : s.vm.findClass RX9 = some m.cls := hown
  have hl : lv_has ls 3 [(0, .ref h), (1, .int n)] := hl
  refine lv_bipush (v := 24) hx hb dX9_addBytesOf_0 (by decide) ?_
  refine lv_istore_n (lv' := [(2, .int 24), (0, .ref h), (1, .int n)]) hx hb dX9_addBytesOf_2 rfl hl (by decide) rfl (fun ls hl => ?_)
  refine lv_iload_n hx hb dX9_addBytesOf_3 rfl (lv_at hl 0 rfl) ?_
  refine lv_if_lt (tgt := 49) hx hb dX9_addBytesOf_4 (by decide) (fun c9 => absurd c9 (by decide)) (fun _ => ?_)
  refine lv_aload_n hx hb dX9_addBytesOf_7 rfl (lv_at hl 1 rfl) ?_
  refine va_get (D := D) (ci := 9) (v := .int 12) (C := RX9) (T := TX9) (N := 2) hx hb hts iw_X9_addBytesOf_X9 hown hKX.1 hP 0 rfl rfl 1 (by decide) (hts (.fieldLink RX9 15 "TrainFerry$Tape" "size" "I") (by decide +kernel)) (fun _ h9 => h9) rfl dX9_addBytesOf_8 ?_
  refine lv_sipush (v := 300) hx hb dX9_addBytesOf_11 (by decide) ?_
  refine lv_icmp_ge (tgt := 49) hx hb dX9_addBytesOf_14 (by decide) (fun c9 => absurd c9 (by decide)) (fun _ => ?_)
  refine lv_aload_n hx hb dX9_addBytesOf_17 rfl (lv_at hl 1 rfl) ?_
  refine va_get (D := D) (ci := 9) (v := .ref b) (C := RX9) (T := TX9) (N := 2) hx hb hts iw_X9_addBytesOf_X9 hown hKX.1 hP 0 rfl rfl 0 (by decide) (hts (.fieldLink RX9 9 "TrainFerry$Tape" "bytes" "[I") (by decide +kernel)) (fun _ h9 => h9) rfl dX9_addBytesOf_18 ?_
  refine lv_aload_n hx hb dX9_addBytesOf_21 rfl (lv_at hl 1 rfl) ?_
  refine va_get (D := D) (ci := 9) (v := .int 12) (C := RX9) (T := TX9) (N := 2) hx hb hts iw_X9_addBytesOf_X9 hown hKX.1 hP 0 rfl rfl 1 (by decide) (hts (.fieldLink RX9 15 "TrainFerry$Tape" "size" "I") (by decide +kernel)) (fun _ h9 => h9) rfl dX9_addBytesOf_22 ?_
  refine lv_iload_n hx hb dX9_addBytesOf_25 rfl (lv_at hl 2 rfl) ?_
  refine lv_iload_n hx hb dX9_addBytesOf_26 rfl (lv_at hl 0 rfl) ?_
  refine lv_iushr (v := _) hx hb dX9_addBytesOf_27 rfl ?_
  refine lv_topi (fun z1 _ => ?_)
  refine lv_sipush (v := 255) hx hb dX9_addBytesOf_28 (by decide) ?_
  refine lv_iand hx hb dX9_addBytesOf_31 ?_
  refine va_iast hx hb hKX.1 hP hD hS 1 0 rfl rfl (vind (by decide)) dX9_addBytesOf_32 (fun H locs hP hD hS => ?_)
  have hP : va_P D vwCl [(h, .inr (9, [.ref b, .int 12])), (b, .inl (cy 0, 300, .inl (upd f (Int32.toNatClampNeg 12) (z1 &&& 255))))] H := hP
  have hD : va_D A [(h, .inr (9, [.ref b, .int 12])), (b, .inl (cy 0, 300, .inl (upd f (Int32.toNatClampNeg 12) (z1 &&& 255))))] := hD
  generalize upd f (Int32.toNatClampNeg 12) (z1 &&& 255) = g2 at hP hD
  refine lv_aload_n hx hb dX9_addBytesOf_33 rfl (lv_at hl 1 rfl) ?_
  refine lv_dup hx hb dX9_addBytesOf_34 rfl ?_
  refine va_get (D := D) (ci := 9) (v := .int 12) (C := RX9) (T := TX9) (N := 2) hx hb hts iw_X9_addBytesOf_X9 hown hKX.1 hP 0 rfl rfl 1 (by decide) (hts (.fieldLink RX9 15 "TrainFerry$Tape" "size" "I") (by decide +kernel)) (fun _ h9 => h9) rfl dX9_addBytesOf_35 ?_
  refine lv_iconst (v := 1) hx hb dX9_addBytesOf_38 (by decide) ?_
  refine lv_iadd hx hb dX9_addBytesOf_39 ?_
  refine lv_cst 13 (by decide) ?_
  refine va_put (D := D) (ci := 9) (v := .int 13) (ty := .int) (C := RX9) (T := TX9) (N := 2) hx hb hts iw_X9_addBytesOf_X9 tyX9 tyX9_ok nmX9 hown hKX.1 hP hD hS 0 rfl rfl 1 (by decide) (hts (.fieldLink RX9 15 "TrainFerry$Tape" "size" "I") (by decide +kernel)) (fun _ h9 => h9) rfl (by decide +kernel) rfl rfl (Nat.le_of_ble_eq_true rfl) dX9_addBytesOf_40 (fun H locs hP hD hS => ?_)
  have hP : va_P D vwCl [(h, .inr (9, [.ref b, .int 13])), (b, .inl (cy 0, 300, .inl g2))] H := hP
  have hD : va_D A [(h, .inr (9, [.ref b, .int 13])), (b, .inl (cy 0, 300, .inl g2))] := hD
  refine lv_iinc (v := 16) (lv' := [(2, .int 16), (0, .ref h), (1, .int n)]) hx hb dX9_addBytesOf_43 hl (k := 0) rfl (by decide) (by decide) rfl (fun ls hl => ?_)
  refine lv_goto (tgt := 3) hx hb dX9_addBytesOf_46 (by decide) ?_
  refine lv_iload_n hx hb dX9_addBytesOf_3 rfl (lv_at hl 0 rfl) ?_
  refine lv_if_lt (tgt := 49) hx hb dX9_addBytesOf_4 (by decide) (fun c9 => absurd c9 (by decide)) (fun _ => ?_)
  refine lv_aload_n hx hb dX9_addBytesOf_7 rfl (lv_at hl 1 rfl) ?_
  refine va_get (D := D) (ci := 9) (v := .int 13) (C := RX9) (T := TX9) (N := 2) hx hb hts iw_X9_addBytesOf_X9 hown hKX.1 hP 0 rfl rfl 1 (by decide) (hts (.fieldLink RX9 15 "TrainFerry$Tape" "size" "I") (by decide +kernel)) (fun _ h9 => h9) rfl dX9_addBytesOf_8 ?_
  refine lv_sipush (v := 300) hx hb dX9_addBytesOf_11 (by decide) ?_
  refine lv_icmp_ge (tgt := 49) hx hb dX9_addBytesOf_14 (by decide) (fun c9 => absurd c9 (by decide)) (fun _ => ?_)
  refine lv_aload_n hx hb dX9_addBytesOf_17 rfl (lv_at hl 1 rfl) ?_
  refine va_get (D := D) (ci := 9) (v := .ref b) (C := RX9) (T := TX9) (N := 2) hx hb hts iw_X9_addBytesOf_X9 hown hKX.1 hP 0 rfl rfl 0 (by decide) (hts (.fieldLink RX9 9 "TrainFerry$Tape" "bytes" "[I") (by decide +kernel)) (fun _ h9 => h9) rfl dX9_addBytesOf_18 ?_
  refine lv_aload_n hx hb dX9_addBytesOf_21 rfl (lv_at hl 1 rfl) ?_
  refine va_get (D := D) (ci := 9) (v := .int 13) (C := RX9) (T := TX9) (N := 2) hx hb hts iw_X9_addBytesOf_X9 hown hKX.1 hP 0 rfl rfl 1 (by decide) (hts (.fieldLink RX9 15 "TrainFerry$Tape" "size" "I") (by decide +kernel)) (fun _ h9 => h9) rfl dX9_addBytesOf_22 ?_
  refine lv_iload_n hx hb dX9_addBytesOf_25 rfl (lv_at hl 2 rfl) ?_
  refine lv_iload_n hx hb dX9_addBytesOf_26 rfl (lv_at hl 0 rfl) ?_
  refine lv_iushr (v := _) hx hb dX9_addBytesOf_27 rfl ?_
  refine lv_topi (fun z3 _ => ?_)
  refine lv_sipush (v := 255) hx hb dX9_addBytesOf_28 (by decide) ?_
  refine lv_iand hx hb dX9_addBytesOf_31 ?_
  refine va_iast hx hb hKX.1 hP hD hS 1 0 rfl rfl (vind (by decide)) dX9_addBytesOf_32 (fun H locs hP hD hS => ?_)
  have hP : va_P D vwCl [(h, .inr (9, [.ref b, .int 13])), (b, .inl (cy 0, 300, .inl (upd g2 (Int32.toNatClampNeg 13) (z3 &&& 255))))] H := hP
  have hD : va_D A [(h, .inr (9, [.ref b, .int 13])), (b, .inl (cy 0, 300, .inl (upd g2 (Int32.toNatClampNeg 13) (z3 &&& 255))))] := hD
  generalize upd g2 (Int32.toNatClampNeg 13) (z3 &&& 255) = g4 at hP hD
  refine lv_aload_n hx hb dX9_addBytesOf_33 rfl (lv_at hl 1 rfl) ?_
  refine lv_dup hx hb dX9_addBytesOf_34 rfl ?_
  refine va_get (D := D) (ci := 9) (v := .int 13) (C := RX9) (T := TX9) (N := 2) hx hb hts iw_X9_addBytesOf_X9 hown hKX.1 hP 0 rfl rfl 1 (by decide) (hts (.fieldLink RX9 15 "TrainFerry$Tape" "size" "I") (by decide +kernel)) (fun _ h9 => h9) rfl dX9_addBytesOf_35 ?_
  refine lv_iconst (v := 1) hx hb dX9_addBytesOf_38 (by decide) ?_
  refine lv_iadd hx hb dX9_addBytesOf_39 ?_
  refine lv_cst 14 (by decide) ?_
  refine va_put (D := D) (ci := 9) (v := .int 14) (ty := .int) (C := RX9) (T := TX9) (N := 2) hx hb hts iw_X9_addBytesOf_X9 tyX9 tyX9_ok nmX9 hown hKX.1 hP hD hS 0 rfl rfl 1 (by decide) (hts (.fieldLink RX9 15 "TrainFerry$Tape" "size" "I") (by decide +kernel)) (fun _ h9 => h9) rfl (by decide +kernel) rfl rfl (Nat.le_of_ble_eq_true rfl) dX9_addBytesOf_40 (fun H locs hP hD hS => ?_)
  have hP : va_P D vwCl [(h, .inr (9, [.ref b, .int 14])), (b, .inl (cy 0, 300, .inl g4))] H := hP
  have hD : va_D A [(h, .inr (9, [.ref b, .int 14])), (b, .inl (cy 0, 300, .inl g4))] := hD
  refine lv_iinc (v := 8) (lv' := [(2, .int 8), (0, .ref h), (1, .int n)]) hx hb dX9_addBytesOf_43 hl (k := 0) rfl (by decide) (by decide) rfl (fun ls hl => ?_)
  refine lv_goto (tgt := 3) hx hb dX9_addBytesOf_46 (by decide) ?_
  refine lv_iload_n hx hb dX9_addBytesOf_3 rfl (lv_at hl 0 rfl) ?_
  refine lv_if_lt (tgt := 49) hx hb dX9_addBytesOf_4 (by decide) (fun c9 => absurd c9 (by decide)) (fun _ => ?_)
  refine lv_aload_n hx hb dX9_addBytesOf_7 rfl (lv_at hl 1 rfl) ?_
  refine va_get (D := D) (ci := 9) (v := .int 14) (C := RX9) (T := TX9) (N := 2) hx hb hts iw_X9_addBytesOf_X9 hown hKX.1 hP 0 rfl rfl 1 (by decide) (hts (.fieldLink RX9 15 "TrainFerry$Tape" "size" "I") (by decide +kernel)) (fun _ h9 => h9) rfl dX9_addBytesOf_8 ?_
  refine lv_sipush (v := 300) hx hb dX9_addBytesOf_11 (by decide) ?_
  refine lv_icmp_ge (tgt := 49) hx hb dX9_addBytesOf_14 (by decide) (fun c9 => absurd c9 (by decide)) (fun _ => ?_)
  refine lv_aload_n hx hb dX9_addBytesOf_17 rfl (lv_at hl 1 rfl) ?_
  refine va_get (D := D) (ci := 9) (v := .ref b) (C := RX9) (T := TX9) (N := 2) hx hb hts iw_X9_addBytesOf_X9 hown hKX.1 hP 0 rfl rfl 0 (by decide) (hts (.fieldLink RX9 9 "TrainFerry$Tape" "bytes" "[I") (by decide +kernel)) (fun _ h9 => h9) rfl dX9_addBytesOf_18 ?_
  refine lv_aload_n hx hb dX9_addBytesOf_21 rfl (lv_at hl 1 rfl) ?_
  refine va_get (D := D) (ci := 9) (v := .int 14) (C := RX9) (T := TX9) (N := 2) hx hb hts iw_X9_addBytesOf_X9 hown hKX.1 hP 0 rfl rfl 1 (by decide) (hts (.fieldLink RX9 15 "TrainFerry$Tape" "size" "I") (by decide +kernel)) (fun _ h9 => h9) rfl dX9_addBytesOf_22 ?_
  refine lv_iload_n hx hb dX9_addBytesOf_25 rfl (lv_at hl 2 rfl) ?_
  refine lv_iload_n hx hb dX9_addBytesOf_26 rfl (lv_at hl 0 rfl) ?_
  refine lv_iushr (v := _) hx hb dX9_addBytesOf_27 rfl ?_
  refine lv_topi (fun z5 _ => ?_)
  refine lv_sipush (v := 255) hx hb dX9_addBytesOf_28 (by decide) ?_
  refine lv_iand hx hb dX9_addBytesOf_31 ?_
  refine va_iast hx hb hKX.1 hP hD hS 1 0 rfl rfl (vind (by decide)) dX9_addBytesOf_32 (fun H locs hP hD hS => ?_)
  have hP : va_P D vwCl [(h, .inr (9, [.ref b, .int 14])), (b, .inl (cy 0, 300, .inl (upd g4 (Int32.toNatClampNeg 14) (z5 &&& 255))))] H := hP
  have hD : va_D A [(h, .inr (9, [.ref b, .int 14])), (b, .inl (cy 0, 300, .inl (upd g4 (Int32.toNatClampNeg 14) (z5 &&& 255))))] := hD
  generalize upd g4 (Int32.toNatClampNeg 14) (z5 &&& 255) = g6 at hP hD
  refine lv_aload_n hx hb dX9_addBytesOf_33 rfl (lv_at hl 1 rfl) ?_
  refine lv_dup hx hb dX9_addBytesOf_34 rfl ?_
  refine va_get (D := D) (ci := 9) (v := .int 14) (C := RX9) (T := TX9) (N := 2) hx hb hts iw_X9_addBytesOf_X9 hown hKX.1 hP 0 rfl rfl 1 (by decide) (hts (.fieldLink RX9 15 "TrainFerry$Tape" "size" "I") (by decide +kernel)) (fun _ h9 => h9) rfl dX9_addBytesOf_35 ?_
  refine lv_iconst (v := 1) hx hb dX9_addBytesOf_38 (by decide) ?_
  refine lv_iadd hx hb dX9_addBytesOf_39 ?_
  refine lv_cst 15 (by decide) ?_
  refine va_put (D := D) (ci := 9) (v := .int 15) (ty := .int) (C := RX9) (T := TX9) (N := 2) hx hb hts iw_X9_addBytesOf_X9 tyX9 tyX9_ok nmX9 hown hKX.1 hP hD hS 0 rfl rfl 1 (by decide) (hts (.fieldLink RX9 15 "TrainFerry$Tape" "size" "I") (by decide +kernel)) (fun _ h9 => h9) rfl (by decide +kernel) rfl rfl (Nat.le_of_ble_eq_true rfl) dX9_addBytesOf_40 (fun H locs hP hD hS => ?_)
  have hP : va_P D vwCl [(h, .inr (9, [.ref b, .int 15])), (b, .inl (cy 0, 300, .inl g6))] H := hP
  have hD : va_D A [(h, .inr (9, [.ref b, .int 15])), (b, .inl (cy 0, 300, .inl g6))] := hD
  refine lv_iinc (v := 0) (lv' := [(2, .int 0), (0, .ref h), (1, .int n)]) hx hb dX9_addBytesOf_43 hl (k := 0) rfl (by decide) (by decide) rfl (fun ls hl => ?_)
  refine lv_goto (tgt := 3) hx hb dX9_addBytesOf_46 (by decide) ?_
  refine lv_iload_n hx hb dX9_addBytesOf_3 rfl (lv_at hl 0 rfl) ?_
  refine lv_if_lt (tgt := 49) hx hb dX9_addBytesOf_4 (by decide) (fun c9 => absurd c9 (by decide)) (fun _ => ?_)
  refine lv_aload_n hx hb dX9_addBytesOf_7 rfl (lv_at hl 1 rfl) ?_
  refine va_get (D := D) (ci := 9) (v := .int 15) (C := RX9) (T := TX9) (N := 2) hx hb hts iw_X9_addBytesOf_X9 hown hKX.1 hP 0 rfl rfl 1 (by decide) (hts (.fieldLink RX9 15 "TrainFerry$Tape" "size" "I") (by decide +kernel)) (fun _ h9 => h9) rfl dX9_addBytesOf_8 ?_
  refine lv_sipush (v := 300) hx hb dX9_addBytesOf_11 (by decide) ?_
  refine lv_icmp_ge (tgt := 49) hx hb dX9_addBytesOf_14 (by decide) (fun c9 => absurd c9 (by decide)) (fun _ => ?_)
  refine lv_aload_n hx hb dX9_addBytesOf_17 rfl (lv_at hl 1 rfl) ?_
  refine va_get (D := D) (ci := 9) (v := .ref b) (C := RX9) (T := TX9) (N := 2) hx hb hts iw_X9_addBytesOf_X9 hown hKX.1 hP 0 rfl rfl 0 (by decide) (hts (.fieldLink RX9 9 "TrainFerry$Tape" "bytes" "[I") (by decide +kernel)) (fun _ h9 => h9) rfl dX9_addBytesOf_18 ?_
  refine lv_aload_n hx hb dX9_addBytesOf_21 rfl (lv_at hl 1 rfl) ?_
  refine va_get (D := D) (ci := 9) (v := .int 15) (C := RX9) (T := TX9) (N := 2) hx hb hts iw_X9_addBytesOf_X9 hown hKX.1 hP 0 rfl rfl 1 (by decide) (hts (.fieldLink RX9 15 "TrainFerry$Tape" "size" "I") (by decide +kernel)) (fun _ h9 => h9) rfl dX9_addBytesOf_22 ?_
  refine lv_iload_n hx hb dX9_addBytesOf_25 rfl (lv_at hl 2 rfl) ?_
  refine lv_iload_n hx hb dX9_addBytesOf_26 rfl (lv_at hl 0 rfl) ?_
  refine lv_iushr (v := _) hx hb dX9_addBytesOf_27 rfl ?_
  refine lv_topi (fun z7 _ => ?_)
  refine lv_sipush (v := 255) hx hb dX9_addBytesOf_28 (by decide) ?_
  refine lv_iand hx hb dX9_addBytesOf_31 ?_
  refine va_iast hx hb hKX.1 hP hD hS 1 0 rfl rfl (vind (by decide)) dX9_addBytesOf_32 (fun H locs hP hD hS => ?_)
  have hP : va_P D vwCl [(h, .inr (9, [.ref b, .int 15])), (b, .inl (cy 0, 300, .inl (upd g6 (Int32.toNatClampNeg 15) (z7 &&& 255))))] H := hP
  have hD : va_D A [(h, .inr (9, [.ref b, .int 15])), (b, .inl (cy 0, 300, .inl (upd g6 (Int32.toNatClampNeg 15) (z7 &&& 255))))] := hD
  generalize upd g6 (Int32.toNatClampNeg 15) (z7 &&& 255) = g8 at hP hD
  refine lv_aload_n hx hb dX9_addBytesOf_33 rfl (lv_at hl 1 rfl) ?_
  refine lv_dup hx hb dX9_addBytesOf_34 rfl ?_
  refine va_get (D := D) (ci := 9) (v := .int 15) (C := RX9) (T := TX9) (N := 2) hx hb hts iw_X9_addBytesOf_X9 hown hKX.1 hP 0 rfl rfl 1 (by decide) (hts (.fieldLink RX9 15 "TrainFerry$Tape" "size" "I") (by decide +kernel)) (fun _ h9 => h9) rfl dX9_addBytesOf_35 ?_
  refine lv_iconst (v := 1) hx hb dX9_addBytesOf_38 (by decide) ?_
  refine lv_iadd hx hb dX9_addBytesOf_39 ?_
  refine lv_cst 16 (by decide) ?_
  refine va_put (D := D) (ci := 9) (v := .int 16) (ty := .int) (C := RX9) (T := TX9) (N := 2) hx hb hts iw_X9_addBytesOf_X9 tyX9 tyX9_ok nmX9 hown hKX.1 hP hD hS 0 rfl rfl 1 (by decide) (hts (.fieldLink RX9 15 "TrainFerry$Tape" "size" "I") (by decide +kernel)) (fun _ h9 => h9) rfl (by decide +kernel) rfl rfl (Nat.le_of_ble_eq_true rfl) dX9_addBytesOf_40 (fun H locs hP hD hS => ?_)
  have hP : va_P D vwCl [(h, .inr (9, [.ref b, .int 16])), (b, .inl (cy 0, 300, .inl g8))] H := hP
  have hD : va_D A [(h, .inr (9, [.ref b, .int 16])), (b, .inl (cy 0, 300, .inl g8))] := hD
  refine lv_iinc (v := (-8)) (lv' := [(2, .int (-8)), (0, .ref h), (1, .int n)]) hx hb dX9_addBytesOf_43 hl (k := 0) rfl (by decide) (by decide) rfl (fun ls hl => ?_)
  refine lv_goto (tgt := 3) hx hb dX9_addBytesOf_46 (by decide) ?_
  refine lv_iload_n hx hb dX9_addBytesOf_3 rfl (lv_at hl 0 rfl) ?_
  refine lv_if_lt (tgt := 49) hx hb dX9_addBytesOf_4 (by decide) (fun _ => ?_) (fun c9 => absurd (by decide) c9)
  exact en_v hx hb hr hlocks g8 trivial (hP.sub [0, 1] rfl) (hD.sub [0, 1] (by decide) rfl) hS (Nat.le_of_ble_eq_true rfl) (Nat.le_of_ble_eq_true rfl) dX9_addBytesOf_49
set_option maxHeartbeats 4000000 in
set_option maxRecDepth 100000 in
theorem c_addBytes_16 (l : Launch) (D : va_G) (cy : Nat → ClassId) (h : Nat) (b : Nat) (f : Nat → Int32) (n : Int32) (sz : Nat) : Met l yX9_addBytesOf wsX9_addBytesOf ({ frames := 0, cells := 0, slots := 0, locals := 0 }) (wPre D cy [.ref h, .int n] sz [(h, .inr (9, [.ref b, .int 16])), (b, .inl (cy 0, 300, .inl f))]) (wQv D (fun _ : (Nat → Int32) => True) (fun u : (Nat → Int32) => [(h, .inr (9, [.ref b, .int 20])), (b, .inl (cy 0, 300, .inl u))]) (va_A [(h, .inr (9, [.ref b, .int 16])), (b, .inl (cy 0, 300, .inl f))] sz)) 0 0 (va_A [(h, .inr (9, [.ref b, .int 16])), (b, .inl (cy 0, 300, .inl f))] sz) := by
  refine met_go (y := yX9_addBytesOf) (ws := wsX9_addBytesOf) (av := [.ref h, .int n]) (cc := cX9_addBytesOf) (maxL := 3) (ret := none) (Qc := fun A => wQv D (fun _ : (Nat → Int32) => True) (fun u : (Nat → Int32) => [(h, .inr (9, [.ref b, .int 20])), (b, .inl (cy 0, 300, .inl u))]) A) (by decide) rfl (Nat.le_of_ble_eq_true rfl) ?_
  intro p e s m below meth c ls A hx hb hr hml hown hts hlocks hname hKX hP hD hA hS hl
  have hown : s.vm.findClass RX9 = some m.cls := hown
  have hl : lv_has ls 3 [(0, .ref h), (1, .int n)] := hl
  refine lv_bipush (v := 24) hx hb dX9_addBytesOf_0 (by decide) ?_
  refine lv_istore_n (lv' := [(2, .int 24), (0, .ref h), (1, .int n)]) hx hb dX9_addBytesOf_2 rfl hl (by decide) rfl (fun ls hl => ?_)
  refine lv_iload_n hx hb dX9_addBytesOf_3 rfl (lv_at hl 0 rfl) ?_
  refine lv_if_lt (tgt := 49) hx hb dX9_addBytesOf_4 (by decide) (fun c9 => absurd c9 (by decide)) (fun _ => ?_)
  refine lv_aload_n hx hb dX9_addBytesOf_7 rfl (lv_at hl 1 rfl) ?_
  refine va_get (D := D) (ci := 9) (v := .int 16) (C := RX9) (T := TX9) (N := 2) hx hb hts iw_X9_addBytesOf_X9 hown hKX.1 hP 0 rfl rfl 1 (by decide) (hts (.fieldLink RX9 15 "TrainFerry$Tape" "size" "I") (by decide +kernel)) (fun _ h9 => h9) rfl dX9_addBytesOf_8 ?_
  refine lv_sipush (v := 300) hx hb dX9_addBytesOf_11 (by decide) ?_
  refine lv_icmp_ge (tgt := 49) hx hb dX9_addBytesOf_14 (by decide) (fun c9 => absurd c9 (by decide)) (fun _ => ?_)
  refine lv_aload_n hx hb dX9_addBytesOf_17 rfl (lv_at hl 1 rfl) ?_
  refine va_get (D := D) (ci := 9) (v := .ref b) (C := RX9) (T := TX9) (N := 2) hx hb hts iw_X9_addBytesOf_X9 hown hKX.1 hP 0 rfl rfl 0 (by decide) (hts (.fieldLink RX9 9 "TrainFerry$Tape" "bytes" "[I") (by decide +kernel)) (fun _ h9 => h9) rfl dX9_addBytesOf_18 ?_
  refine lv_aload_n hx hb dX9_addBytesOf_21 rfl (lv_at hl 1 rfl) ?_
  refine va_get (D := D) (ci := 9) (v := .int 16) (C := RX9) (T := TX9) (N := 2) hx hb hts iw_X9_addBytesOf_X9 hown hKX.1 hP 0 rfl rfl 1 (by decide) (hts (.fieldLink RX9 15 "TrainFerry$Tape" "size" "I") (by decide +kernel)) (fun _ h9 => h9) rfl dX9_addBytesOf_22 ?_
  refine lv_iload_n hx hb dX9_addBytesOf_25 rfl (lv_at hl 2 rfl) ?_
  refine lv_iload_n hx hb dX9_addBytesOf_26 rfl (lv_at hl 0 rfl) ?_
  refine lv_iushr (v := _) hx hb dX9_addBytesOf_27 rfl ?_
  refine lv_topi (fun z1 _ => ?_)
  refine lv_sipush (v := 255) hx hb dX9_addBytesOf_28 (by decide) ?_
  refine lv_iand hx hb dX9_addBytesOf_31 ?_
  refine va_iast hx hb hKX.1 hP hD hS 1 0 rfl rfl (vind (by decide)) dX9_addBytesOf_32 (fun H locs hP hD hS => ?_)
  have hP : va_P D vwCl [(h, .inr (9, [.ref b, .int 16])), (b, .inl (cy 0, 300, .inl (upd f (Int32.toNatClampNeg 16) (z1 &&& 255))))] H := hP
  have hD : va_D A [(h, .inr (9, [.ref b, .int 16])), (b, .inl (cy 0, 300, .inl (upd f (Int32.toNatClampNeg 16) (z1 &&& 255))))] := hD
  generalize upd f (Int32.toNatClampNeg 16) (z1 &&& 255) = g2 at hP hD
  refine lv_aload_n hx hb dX9_addBytesOf_33 rfl (lv_at hl 1 rfl) ?_
  refine lv_dup hx hb dX9_addBytesOf_34 rfl ?_
  refine va_get (D := D) (ci := 9) (v := .int 16) (C := RX9) (T := TX9) (N := 2) hx hb hts iw_X9_addBytesOf_X9 hown hKX.1 hP 0 rfl rfl 1 (by decide) (hts (.fieldLink RX9 15 "TrainFerry$Tape" "size" "I") (by decide +kernel)) (fun _ h9 => h9) rfl dX9_addBytesOf_35 ?_
  refine lv_iconst (v := 1) hx hb dX9_addBytesOf_38 (by decide) ?_
  refine lv_iadd hx hb dX9_addBytesOf_39 ?_
  refine lv_cst 17 (by decide) ?_
  refine va_put (D := D) (ci := 9) (v := .int 17) (ty := .int) (C := RX9) (T := TX9) (N := 2) hx hb hts iw_X9_addBytesOf_X9 tyX9 tyX9_ok nmX9 hown hKX.1 hP hD hS 0 rfl rfl 1 (by decide) (hts (.fieldLink RX9 15 "TrainFerry$Tape" "size" "I") (by decide +kernel)) (fun _ h9 => h9) rfl (by decide +kernel) rfl rfl (Nat.le_of_ble_eq_true rfl) dX9_addBytesOf_40 (fun H locs hP hD hS => ?_)
  have hP : va_P D vwCl [(h, .inr (9, [.ref b, .int 17])), (b, .inl (cy 0, 300, .inl g2))] H := hP
  have hD : va_D A [(h, .inr (9, [.ref b, .int 17])), (b, .inl (cy 0, 300, .inl g2))] := hD
  refine lv_iinc (v := 16) (lv' := [(2, .int 16), (0, .ref h), (1, .int n)]) hx hb dX9_addBytesOf_43 hl (k := 0) rfl (by decide) (by decide) rfl (fun ls hl => ?_)
  refine lv_goto (tgt := 3) hx hb dX9_addBytesOf_46 (by decide) ?_
  refine lv_iload_n hx hb dX9_addBytesOf_3 rfl (lv_at hl 0 rfl) ?_
  refine lv_if_lt (tgt := 49) hx hb dX9_addBytesOf_4 (by decide) (fun c9 => absurd c9 (by decide)) (fun _ => ?_)
  refine lv_aload_n hx hb dX9_addBytesOf_7 rfl (lv_at hl 1 rfl) ?_
  refine va_get (D := D) (ci := 9) (v := .int 17) (C := RX9) (T := TX9) (N := 2) hx hb hts iw_X9_addBytesOf_X9 hown hKX.1 hP 0 rfl rfl 1 (by decide) (hts (.fieldLink RX9 15 "TrainFerry$Tape" "size" "I") (by decide +kernel)) (fun _ h9 => h9) rfl dX9_addBytesOf_8 ?_
  refine lv_sipush (v := 300) hx hb dX9_addBytesOf_11 (by decide) ?_
  refine lv_icmp_ge (tgt := 49) hx hb dX9_addBytesOf_14 (by decide) (fun c9 => absurd c9 (by decide)) (fun _ => ?_)
  refine lv_aload_n hx hb dX9_addBytesOf_17 rfl (lv_at hl 1 rfl) ?_
  refine va_get (D := D) (ci := 9) (v := .ref b) (C := RX9) (T := TX9) (N := 2) hx hb hts iw_X9_addBytesOf_X9 hown hKX.1 hP 0 rfl rfl 0 (by decide) (hts (.fieldLink RX9 9 "TrainFerry$Tape" "bytes" "[I") (by decide +kernel)) (fun _ h9 => h9) rfl dX9_addBytesOf_18 ?_
  refine lv_aload_n hx hb dX9_addBytesOf_21 rfl (lv_at hl 1 rfl) ?_
  refine va_get (D := D) (ci := 9) (v := .int 17) (C := RX9) (T := TX9) (N := 2) hx hb hts iw_X9_addBytesOf_X9 hown hKX.1 hP 0 rfl rfl 1 (by decide) (hts (.fieldLink RX9 15 "TrainFerry$Tape" "size" "I") (by decide +kernel)) (fun _ h9 => h9) rfl dX9_addBytesOf_22 ?_
  refine lv_iload_n hx hb dX9_addBytesOf_25 rfl (lv_at hl 2 rfl) ?_
  refine lv_iload_n hx hb dX9_addBytesOf_26 rfl (lv_at hl 0 rfl) ?_
  refine lv_iushr (v := _) hx hb dX9_addBytesOf_27 rfl ?_
  refine lv_topi (fun z3 _ => ?_)
  refine lv_sipush (v := 255) hx hb dX9_addBytesOf_28 (by decide) ?_
  refine lv_iand hx hb dX9_addBytesOf_31 ?_
  refine va_iast hx hb hKX.1 hP hD hS 1 0 rfl rfl (vind (by decide)) dX9_addBytesOf_32 (fun H locs hP hD hS => ?_)
  have hP : va_P D vwCl [(h, .inr (9, [.ref b, .int 17])), (b, .inl (cy 0, 300, .inl (upd g2 (Int32.toNatClampNeg 17) (z3 &&& 255))))] H := hP
  have hD : va_D A [(h, .inr (9, [.ref b, .int 17])), (b, .inl (cy 0, 300, .inl (upd g2 (Int32.toNatClampNeg 17) (z3 &&& 255))))] := hD
  generalize upd g2 (Int32.toNatClampNeg 17) (z3 &&& 255) = g4 at hP hD
  refine lv_aload_n hx hb dX9_addBytesOf_33 rfl (lv_at hl 1 rfl) ?_
  refine lv_dup hx hb dX9_addBytesOf_34 rfl ?_
  refine va_get (D := D) (ci := 9) (v := .int 17) (C := RX9) (T := TX9) (N := 2) hx hb hts iw_X9_addBytesOf_X9 hown hKX.1 hP 0 rfl rfl 1 (by decide) (hts (.fieldLink RX9 15 "TrainFerry$Tape" "size" "I") (by decide +kernel)) (fun _ h9 => h9) rfl dX9_addBytesOf_35 ?_
  refine lv_iconst (v := 1) hx hb dX9_addBytesOf_38 (by decide) ?_
  refine lv_iadd hx hb dX9_addBytesOf_39 ?_
  refine lv_cst 18 (by decide) ?_
  refine va_put (D := D) (ci := 9) (v := .int 18) (ty := .int) (C := RX9) (T := TX9) (N := 2) hx hb hts iw_X9_addBytesOf_X9 tyX9 tyX9_ok nmX9 hown hKX.1 hP hD hS 0 rfl rfl 1 (by decide) (hts (.fieldLink RX9 15 "TrainFerry$Tape" "size" "I") (by decide +kernel)) (fun _ h9 => h9) rfl (by decide +kernel) rfl rfl (Nat.le_of_ble_eq_true rfl) dX9_addBytesOf_40 (fun H locs hP hD hS => ?_)
  have hP : va_P D vwCl [(h, .inr (9, [.ref b, .int 18])), (b, .inl (cy 0, 300, .inl g4))] H := hP
  have hD : va_D A [(h, .inr (9, [.ref b, .int 18])), (b, .inl (cy 0, 300, .inl g4))] := hD
  refine lv_iinc (v := 8) (lv' := [(2, .int 8), (0, .ref h), (1, .int n)]) hx hb dX9_addBytesOf_43 hl (k := 0) rfl (by decide) (by decide) rfl (fun ls hl => ?_)
  refine lv_goto (tgt := 3) hx hb dX9_addBytesOf_46 (by decide) ?_
  refine lv_iload_n hx hb dX9_addBytesOf_3 rfl (lv_at hl 0 rfl) ?_
  refine lv_if_lt (tgt := 49) hx hb dX9_addBytesOf_4 (by decide) (fun c9 => absurd c9 (by decide)) (fun _ => ?_)
  refine lv_aload_n hx hb dX9_addBytesOf_7 rfl (lv_at hl 1 rfl) ?_
  refine va_get (D := D) (ci := 9) (v := .int 18) (C := RX9) (T := TX9) (N := 2) hx hb hts iw_X9_addBytesOf_X9 hown hKX.1 hP 0 rfl rfl 1 (by decide) (hts (.fieldLink RX9 15 "TrainFerry$Tape" "size" "I") (by decide +kernel)) (fun _ h9 => h9) rfl dX9_addBytesOf_8 ?_
  refine lv_sipush (v := 300) hx hb dX9_addBytesOf_11 (by decide) ?_
  refine lv_icmp_ge (tgt := 49) hx hb dX9_addBytesOf_14 (by decide) (fun c9 => absurd c9 (by decide)) (fun _ => ?_)
  refine lv_aload_n hx hb dX9_addBytesOf_17 rfl (lv_at hl 1 rfl) ?_
  refine va_get (D := D) (ci := 9) (v := .ref b) (C := RX9) (T := TX9) (N := 2) hx hb hts iw_X9_addBytesOf_X9 hown hKX.1 hP 0 rfl rfl 0 (by decide) (hts (.fieldLink RX9 9 "TrainFerry$Tape" "bytes" "[I") (by decide +kernel)) (fun _ h9 => h9) rfl dX9_addBytesOf_18 ?_
  refine lv_aload_n hx hb dX9_addBytesOf_21 rfl (lv_at hl 1 rfl) ?_
  refine va_get (D := D) (ci := 9) (v := .int 18) (C := RX9) (T := TX9) (N := 2) hx hb hts iw_X9_addBytesOf_X9 hown hKX.1 hP 0 rfl rfl 1 (by decide) (hts (.fieldLink RX9 15 "TrainFerry$Tape" "size" "I") (by decide +kernel)) (fun _ h9 => h9) rfl dX9_addBytesOf_22 ?_
  refine lv_iload_n hx hb dX9_addBytesOf_25 rfl (lv_at hl 2 rfl) ?_
  refine lv_iload_n hx hb dX9_addBytesOf_26 rfl (lv_at hl 0 rfl) ?_
  refine lv_iushr (v := _) hx hb dX9_addBytesOf_27 rfl ?_
  refine lv_topi (fun z5 _ => ?_)
  refine lv_sipush (v := 255) hx hb dX9_addBytesOf_28 (by decide) ?_
  refine lv_iand hx hb dX9_addBytesOf_31 ?_
  refine va_iast hx hb hKX.1 hP hD hS 1 0 rfl rfl (vind (by decide)) dX9_addBytesOf_32 (fun H locs hP hD hS => ?_)
  have hP : va_P D vwCl [(h, .inr (9, [.ref b, .int 18])), (b, .inl (cy 0, 300, .inl (upd g4 (Int32.toNatClampNeg 18) (z5 &&& 255))))] H := hP
  have hD : va_D A [(h, .inr (9, [.ref b, .int 18])), (b, .inl (cy 0, 300, .inl (upd g4 (Int32.toNatClampNeg 18) (z5 &&& 255))))] := hD
  generalize upd g4 (Int32.toNatClampNeg 18) (z5 &&& 255) = g6 at hP hD
  refine lv_aload_n hx hb dX9_addBytesOf_33 rfl (lv_at hl 1 rfl) ?_
  refine lv_dup hx hb dX9_addBytesOf_34 rfl ?_
  refine va_get (D := D) (ci := 9) (v := .int 18) (C := RX9) (T := TX9) (N := 2) hx hb hts iw_X9_addBytesOf_X9 hown hKX.1 hP 0 rfl rfl 1 (by decide) (hts (.fieldLink RX9 15 "TrainFerry$Tape" "size" "I") (by decide +kernel)) (fun _ h9 => h9) rfl dX9_addBytesOf_35 ?_
  refine lv_iconst (v := 1) hx hb dX9_addBytesOf_38 (by decide) ?_
  refine lv_iadd hx hb dX9_addBytesOf_39 ?_
  refine lv_cst 19 (by decide) ?_
  refine va_put (D := D) (ci := 9) (v := .int 19) (ty := .int) (C := RX9) (T := TX9) (N := 2) hx hb hts iw_X9_addBytesOf_X9 tyX9 tyX9_ok nmX9 hown hKX.1 hP hD hS 0 rfl rfl 1 (by decide) (hts (.fieldLink RX9 15 "TrainFerry$Tape" "size" "I") (by decide +kernel)) (fun _ h9 => h9) rfl (by decide +kernel) rfl rfl (Nat.le_of_ble_eq_true rfl) dX9_addBytesOf_40 (fun H locs hP hD hS => ?_)
  have hP : va_P D vwCl [(h, .inr (9, [.ref b, .int 19])), (b, .inl (cy 0, 300, .inl g6))] H := hP
  have hD : va_D A [(h, .inr (9, [.ref b, .int 19])), (b, .inl (cy 0, 300, .inl g6))] := hD
  refine lv_iinc (v := 0) (lv' := [(2, .int 0), (0, .ref h), (1, .int n)]) hx hb dX9_addBytesOf_43 hl (k := 0) rfl (by decide) (by decide) rfl (fun ls hl => ?_)
  refine lv_goto (tgt := 3) hx hb dX9_addBytesOf_46 (by decide) ?_
  refine lv_iload_n hx hb dX9_addBytesOf_3 rfl (lv_at hl 0 rfl) ?_
  refine lv_if_lt (tgt := 49) hx hb dX9_addBytesOf_4 (by decide) (fun c9 => absurd c9 (by decide)) (fun _ => ?_)
  refine lv_aload_n hx hb dX9_addBytesOf_7 rfl (lv_at hl 1 rfl) ?_
  refine va_get (D := D) (ci := 9) (v := .int 19) (C := RX9) (T := TX9) (N := 2) hx hb hts iw_X9_addBytesOf_X9 hown hKX.1 hP 0 rfl rfl 1 (by decide) (hts (.fieldLink RX9 15 "TrainFerry$Tape" "size" "I") (by decide +kernel)) (fun _ h9 => h9) rfl dX9_addBytesOf_8 ?_
  refine lv_sipush (v := 300) hx hb dX9_addBytesOf_11 (by decide) ?_
  refine lv_icmp_ge (tgt := 49) hx hb dX9_addBytesOf_14 (by decide) (fun c9 => absurd c9 (by decide)) (fun _ => ?_)
  refine lv_aload_n hx hb dX9_addBytesOf_17 rfl (lv_at hl 1 rfl) ?_
  refine va_get (D := D) (ci := 9) (v := .ref b) (C := RX9) (T := TX9) (N := 2) hx hb hts iw_X9_addBytesOf_X9 hown hKX.1 hP 0 rfl rfl 0 (by decide) (hts (.fieldLink RX9 9 "TrainFerry$Tape" "bytes" "[I") (by decide +kernel)) (fun _ h9 => h9) rfl dX9_addBytesOf_18 ?_
  refine lv_aload_n hx hb dX9_addBytesOf_21 rfl (lv_at hl 1 rfl) ?_
  refine va_get (D := D) (ci := 9) (v := .int 19) (C := RX9) (T := TX9) (N := 2) hx hb hts iw_X9_addBytesOf_X9 hown hKX.1 hP 0 rfl rfl 1 (by decide) (hts (.fieldLink RX9 15 "TrainFerry$Tape" "size" "I") (by decide +kernel)) (fun _ h9 => h9) rfl dX9_addBytesOf_22 ?_
  refine lv_iload_n hx hb dX9_addBytesOf_25 rfl (lv_at hl 2 rfl) ?_
  refine lv_iload_n hx hb dX9_addBytesOf_26 rfl (lv_at hl 0 rfl) ?_
  refine lv_iushr (v := _) hx hb dX9_addBytesOf_27 rfl ?_
  refine lv_topi (fun z7 _ => ?_)
  refine lv_sipush (v := 255) hx hb dX9_addBytesOf_28 (by decide) ?_
  refine lv_iand hx hb dX9_addBytesOf_31 ?_
  refine va_iast hx hb hKX.1 hP hD hS 1 0 rfl rfl (vind (by decide)) dX9_addBytesOf_32 (fun H locs hP hD hS => ?_)
  have hP : va_P D vwCl [(h, .inr (9, [.ref b, .int 19])), (b, .inl (cy 0, 300, .inl (upd g6 (Int32.toNatClampNeg 19) (z7 &&& 255))))] H := hP
  have hD : va_D A [(h, .inr (9, [.ref b, .int 19])), (b, .inl (cy 0, 300, .inl (upd g6 (Int32.toNatClampNeg 19) (z7 &&& 255))))] := hD
  generalize upd g6 (Int32.toNatClampNeg 19) (z7 &&& 255) = g8 at hP hD
  refine lv_aload_n hx hb dX9_addBytesOf_33 rfl (lv_at hl 1 rfl) ?_
  refine lv_dup hx hb dX9_addBytesOf_34 rfl ?_
  refine va_get (D := D) (ci := 9) (v := .int 19) (C := RX9) (T := TX9) (N := 2) hx hb hts iw_X9_addBytesOf_X9 hown hKX.1 hP 0 rfl rfl 1 (by decide) (hts (.fieldLink RX9 15 "TrainFerry$Tape" "size" "I") (by decide +kernel)) (fun _ h9 => h9) rfl dX9_addBytesOf_35 ?_
  refine lv_iconst (v := 1) hx hb dX9_addBytesOf_38 (by decide) ?_
  refine lv_iadd hx hb dX9_addBytesOf_39 ?_
  refine lv_cst 20 (by decide) ?_
  refine va_put (D := D) (ci := 9) (v := .int 20) (ty := .int) (C := RX9) (T := TX9) (N := 2) hx hb hts iw_X9_addBytesOf_X9 tyX9 tyX9_ok nmX9 hown hKX.1 hP hD hS 0 rfl rfl 1 (by decide) (hts (.fieldLink RX9 15 "TrainFerry$Tape" "size" "I") (by decide +kernel)) (fun _ h9 => h9) rfl (by decide +kernel) rfl rfl (Nat.le_of_ble_eq_true rfl) dX9_addBytesOf_40 (fun H locs hP hD hS => ?_)
  have hP : va_P D vwCl [(h, .inr (9, [.ref b, .int 20])), (b, .inl (cy 0, 300, .inl g8))] H := hP
  have hD : va_D A [(h, .inr (9, [.ref b, .int 20])), (b, .inl (cy 0, 300, .inl g8))] := hD
  refine lv_iinc (v := (-8)) (lv' := [(2, .int (-8)), (0, .ref h), (1, .int n)]) hx hb dX9_addBytesOf_43 hl (k := 0) rfl (by decide) (by decide) rfl (fun ls hl => ?_)
  refine lv_goto (tgt := 3) hx hb dX9_addBytesOf_46 (by decide) ?_
  refine lv_iload_n hx hb dX9_addBytesOf_3 rfl (lv_at hl 0 rfl) ?_
  refine lv_if_lt (tgt := 49) hx hb dX9_addBytesOf_4 (by decide) (fun _ => ?_) (fun c9 => absurd (by decide) c9)
  exact en_v hx hb hr hlocks g8 trivial (hP.sub [0, 1] rfl) (hD.sub [0, 1] (by decide) rfl) hS (Nat.le_of_ble_eq_true rfl) (Nat.le_of_ble_eq_true rfl) dX9_addBytesOf_49
theorem iw_X11_feed_X11 : ∀ w ∈ wsX110, w ∈ wsX11_feed := by decide +kernel
theorem iw_X11_feed_X1 : ∀ w ∈ wsX10, w ∈ wsX11_feed := by decide +kernel
theorem iw_X11_feed_X9 : ∀ w ∈ wsX90, w ∈ wsX11_feed := by decide +kernel
set_option maxHeartbeats 4000000 in
set_option maxRecDepth 100000 in
theorem c_feed (l : Launch) (D : va_G) (cy : Nat → ClassId) (xh : Nat) (xq : Nat → Nat) (xa : Int32) (xb : Int32) (xc : Int32) (xd : Int32) (xe : Int32) (sz : Nat) : Met l yX11_feed wsX11_feed ({ frames := 1, cells := 0, slots := 0, locals := 22 }) (wPre D cy [.ref xh, .int xa, .int xb, .int xc, .int xd, .int xe] sz [(xc0 cy xh xq), (xc40 cy xh xq), (xc41 cy xh xq), (xc42 cy xh xq)]) (wQi D 20 (fun _ : Unit => True) (fun _u : Unit => []) (va_A [(xc0 cy xh xq), (xc40 cy xh xq), (xc41 cy xh xq), (xc42 cy xh xq)] sz)) 0 0 (va_A [(xc0 cy xh xq), (xc40 cy xh xq), (xc41 cy xh xq), (xc42 cy xh xq)] sz) := by
  refine met_go (y := yX11_feed) (ws := wsX11_feed) (av := [.ref xh, .int xa, .int xb, .int xc, .int xd, .int xe]) (cc := cX11_feed) (maxL := 7) (ret := (some .int)) (Qc := fun A => wQi D 20 (fun _ : Unit => True) (fun _u : Unit => []) A) (by decide) rfl (Nat.le_of_ble_eq_true rfl) ?_
  intro p e s m below meth c ls A hx hb hr hml hown hts hlocks hname hKX hP hD hA hS hl
  have hown : s.vm.findClass RX11 = some m.cls := hown
  have hl : lv_has ls 7 [(0, .ref xh), (1, .int xa), (2, .int xb), (3, .int xc), (4, .int xd), (5, .int xe)] := hl
  refine lv_aload_n hx hb dX11_feed_0 rfl (lv_at hl 0 rfl) ?_
  refine va_get (D := D) (ci := 11) (v := .ref (xq 39)) (C := RX11) (T := TX11) (N := 18) hx hb hts iw_X11_feed_X11 hown hKX.1 hP 0 rfl rfl 3 (by decide) (hts (.fieldLink RX11 32 "TrainFerry" "reader" "LTrainFerry$AgreementReader;") (by decide +kernel)) (fun _ h9 => h9) rfl dX11_feed_1 ?_
  refine va_get (D := D) (ci := 1) (v := .ref (xq 40)) (C := RX1) (T := TX1) (N := 6) hx hb hts iw_X11_feed_X1 hown hKX.1 hP 1 rfl rfl 0 (by decide) (hts (.fieldLink RX11 156 "TrainFerry$AgreementReader" "tape" "LTrainFerry$Tape;") (by decide +kernel)) (fun _ h9 => h9) rfl dX11_feed_4 ?_
  refine lv_astore (lv' := [(6, .ref (xq 40)), (0, .ref xh), (1, .int xa), (2, .int xb), (3, .int xc), (4, .int xd), (5, .int xe)]) hx hb dX11_feed_7 hl (by decide) rfl (fun ls hl => ?_)
  refine lv_aload hx hb dX11_feed_9 (lv_at hl 0 rfl) ?_
  refine va_get (D := D) (ci := 9) (v := .int 0) (C := RX9) (T := TX9) (N := 2) hx hb hts iw_X11_feed_X9 hown hKX.1 hP 2 rfl rfl 1 (by decide) (hts (.fieldLink RX11 160 "TrainFerry$Tape" "size" "I") (by decide +kernel)) (fun _ h9 => h9) rfl dX11_feed_11 ?_
  refine lv_bipush (v := 20) hx hb dX11_feed_14 (by decide) ?_
  refine lv_iadd hx hb dX11_feed_16 ?_
  refine lv_cst 20 (by decide) ?_
  refine lv_sipush (v := 300) hx hb dX11_feed_17 (by decide) ?_
  refine lv_icmp_le (tgt := 25) hx hb dX11_feed_20 (by decide) (fun _ => ?_) (fun c9 => absurd (by decide) c9)
  refine lv_aload hx hb dX11_feed_25 (lv_at hl 0 rfl) ?_
  refine lv_iload_n hx hb dX11_feed_27 rfl (lv_at hl 2 rfl) ?_
  refine cl_v (wr := [(xc0 cy xh xq), (xc40 cy xh xq)]) (va_runV (As := [.int xa]) (rest := []) ⟨hx, hb, hml, hown, hts⟩ (c_addBytes_0 l D cy (xq 40) (xq 41) (fun _ => 0) xa _) (cwV 1 hts gX11_feed_X9_addBytesOf rfl rfl rfl (by decide +kernel) ⟨(Nat.le_of_ble_eq_true rfl), (Nat.le_of_ble_eq_true rfl)⟩) (pre_V hKX hP hD (ci := 9) (q0 := 2) rfl rfl [2, 3] rfl (by decide) rfl) rfl rfl hl.1 rfl (lv_room (Nat.le_of_ble_eq_true rfl)) dX11_feed_28 ⟨(Nat.le_of_ble_eq_true rfl), (Nat.le_of_ble_eq_true rfl)⟩) hP hD hS hA [2, 3] [0, 1] rfl rfl (by decide) (by decide) (fun u1 H locs _ hP hD hS => ?_)
  have hP : va_P D vwCl [(xc0 cy xh xq), (xc40 cy xh xq), ((xq 40), .inr (9, [.ref (xq 41), .int 4])), ((xq 41), .inl (cy 0, 300, .inl u1))] H := hP
  have hD : va_D A [(xc0 cy xh xq), (xc40 cy xh xq), ((xq 40), .inr (9, [.ref (xq 41), .int 4])), ((xq 41), .inl (cy 0, 300, .inl u1))] := hD
  refine lv_aload hx hb dX11_feed_31 (lv_at hl 0 rfl) ?_
  refine lv_iload_n hx hb dX11_feed_33 rfl (lv_at hl 3 rfl) ?_
  refine cl_v (wr := [(xc0 cy xh xq), (xc40 cy xh xq)]) (va_runV (As := [.int xb]) (rest := []) ⟨hx, hb, hml, hown, hts⟩ (c_addBytes_4 l D cy (xq 40) (xq 41) u1 xb _) (cwV 1 hts gX11_feed_X9_addBytesOf rfl rfl rfl (by decide +kernel) ⟨(Nat.le_of_ble_eq_true rfl), (Nat.le_of_ble_eq_true rfl)⟩) (pre_V hKX hP hD (ci := 9) (q0 := 2) rfl rfl [2, 3] rfl (by decide) rfl) rfl rfl hl.1 rfl (lv_room (Nat.le_of_ble_eq_true rfl)) dX11_feed_34 ⟨(Nat.le_of_ble_eq_true rfl), (Nat.le_of_ble_eq_true rfl)⟩) hP hD hS hA [2, 3] [0, 1] rfl rfl (by decide) (by decide) (fun u2 H locs _ hP hD hS => ?_)
  have hP : va_P D vwCl [(xc0 cy xh xq), (xc40 cy xh xq), ((xq 40), .inr (9, [.ref (xq 41), .int 8])), ((xq 41), .inl (cy 0, 300, .inl u2))] H := hP
  have hD : va_D A [(xc0 cy xh xq), (xc40 cy xh xq), ((xq 40), .inr (9, [.ref (xq 41), .int 8])), ((xq 41), .inl (cy 0, 300, .inl u2))] := hD
  refine lv_aload hx hb dX11_feed_37 (lv_at hl 0 rfl) ?_
  refine lv_iload_n hx hb dX11_feed_39 rfl (lv_at hl 4 rfl) ?_
  refine cl_v (wr := [(xc0 cy xh xq), (xc40 cy xh xq)]) (va_runV (As := [.int xc]) (rest := []) ⟨hx, hb, hml, hown, hts⟩ (c_addBytes_8 l D cy (xq 40) (xq 41) u2 xc _) (cwV 1 hts gX11_feed_X9_addBytesOf rfl rfl rfl (by decide +kernel) ⟨(Nat.le_of_ble_eq_true rfl), (Nat.le_of_ble_eq_true rfl)⟩) (pre_V hKX hP hD (ci := 9) (q0 := 2) rfl rfl [2, 3] rfl (by decide) rfl) rfl rfl hl.1 rfl (lv_room (Nat.le_of_ble_eq_true rfl)) dX11_feed_40 ⟨(Nat.le_of_ble_eq_true rfl), (Nat.le_of_ble_eq_true rfl)⟩) hP hD hS hA [2, 3] [0, 1] rfl rfl (by decide) (by decide) (fun u3 H locs _ hP hD hS => ?_)
  have hP : va_P D vwCl [(xc0 cy xh xq), (xc40 cy xh xq), ((xq 40), .inr (9, [.ref (xq 41), .int 12])), ((xq 41), .inl (cy 0, 300, .inl u3))] H := hP
  have hD : va_D A [(xc0 cy xh xq), (xc40 cy xh xq), ((xq 40), .inr (9, [.ref (xq 41), .int 12])), ((xq 41), .inl (cy 0, 300, .inl u3))] := hD
  refine lv_aload hx hb dX11_feed_43 (lv_at hl 0 rfl) ?_
  refine lv_iload hx hb dX11_feed_45 (lv_at hl 5 rfl) ?_
  refine cl_v (wr := [(xc0 cy xh xq), (xc40 cy xh xq)]) (va_runV (As := [.int xd]) (rest := []) ⟨hx, hb, hml, hown, hts⟩ (c_addBytes_12 l D cy (xq 40) (xq 41) u3 xd _) (cwV 1 hts gX11_feed_X9_addBytesOf rfl rfl rfl (by decide +kernel) ⟨(Nat.le_of_ble_eq_true rfl), (Nat.le_of_ble_eq_true rfl)⟩) (pre_V hKX hP hD (ci := 9) (q0 := 2) rfl rfl [2, 3] rfl (by decide) rfl) rfl rfl hl.1 rfl (lv_room (Nat.le_of_ble_eq_true rfl)) dX11_feed_47 ⟨(Nat.le_of_ble_eq_true rfl), (Nat.le_of_ble_eq_true rfl)⟩) hP hD hS hA [2, 3] [0, 1] rfl rfl (by decide) (by decide) (fun u4 H locs _ hP hD hS => ?_)
  have hP : va_P D vwCl [(xc0 cy xh xq), (xc40 cy xh xq), ((xq 40), .inr (9, [.ref (xq 41), .int 16])), ((xq 41), .inl (cy 0, 300, .inl u4))] H := hP
  have hD : va_D A [(xc0 cy xh xq), (xc40 cy xh xq), ((xq 40), .inr (9, [.ref (xq 41), .int 16])), ((xq 41), .inl (cy 0, 300, .inl u4))] := hD
  refine lv_aload hx hb dX11_feed_50 (lv_at hl 0 rfl) ?_
  refine lv_iload hx hb dX11_feed_52 (lv_at hl 6 rfl) ?_
  refine cl_v (wr := [(xc0 cy xh xq), (xc40 cy xh xq)]) (va_runV (As := [.int xe]) (rest := []) ⟨hx, hb, hml, hown, hts⟩ (c_addBytes_16 l D cy (xq 40) (xq 41) u4 xe _) (cwV 1 hts gX11_feed_X9_addBytesOf rfl rfl rfl (by decide +kernel) ⟨(Nat.le_of_ble_eq_true rfl), (Nat.le_of_ble_eq_true rfl)⟩) (pre_V hKX hP hD (ci := 9) (q0 := 2) rfl rfl [2, 3] rfl (by decide) rfl) rfl rfl hl.1 rfl (lv_room (Nat.le_of_ble_eq_true rfl)) dX11_feed_54 ⟨(Nat.le_of_ble_eq_true rfl), (Nat.le_of_ble_eq_true rfl)⟩) hP hD hS hA [2, 3] [0, 1] rfl rfl (by decide) (by decide) (fun u5 H locs _ hP hD hS => ?_)
  have hP : va_P D vwCl [(xc0 cy xh xq), (xc40 cy xh xq), ((xq 40), .inr (9, [.ref (xq 41), .int 20])), ((xq 41), .inl (cy 0, 300, .inl u5))] H := hP
  have hD : va_D A [(xc0 cy xh xq), (xc40 cy xh xq), ((xq 40), .inr (9, [.ref (xq 41), .int 20])), ((xq 41), .inl (cy 0, 300, .inl u5))] := hD
  refine lv_aload hx hb dX11_feed_57 (lv_at hl 0 rfl) ?_
  refine va_get (D := D) (ci := 9) (v := .int 20) (C := RX9) (T := TX9) (N := 2) hx hb hts iw_X11_feed_X9 hown hKX.1 hP 2 rfl rfl 1 (by decide) (hts (.fieldLink RX11 160 "TrainFerry$Tape" "size" "I") (by decide +kernel)) (fun _ h9 => h9) rfl dX11_feed_59 ?_
  exact en_i hx hb hr hlocks () rfl trivial (hP.sub [] rfl) (hD.sub [] (by decide) rfl) hS (Nat.le_of_ble_eq_true rfl) (Nat.le_of_ble_eq_true rfl) dX11_feed_62
theorem iw_X11_end_X11 : ∀ w ∈ wsX110, w ∈ wsX11_end := by decide +kernel
theorem iw_X11_end_X1 : ∀ w ∈ wsX10, w ∈ wsX11_end := by decide +kernel
theorem iw_X11_end_X9 : ∀ w ∈ wsX90, w ∈ wsX11_end := by decide +kernel
set_option maxHeartbeats 4000000 in
set_option maxRecDepth 100000 in
theorem c_end (l : Launch) (D : va_G) (cy : Nat → ClassId) (xh : Nat) (xq : Nat → Nat) (xn : Int32) (sz : Nat) : Met l yX11_end wsX11_end ({ frames := 1, cells := 0, slots := 0, locals := 22 }) (wPre D cy [.ref xh, .int xn] sz [(xc0 cy xh xq), (xc40 cy xh xq), (xc41 cy xh xq)]) (wQi D (fEnd xn) (fun _ : Unit => True) (fun _u : Unit => []) (va_A [(xc0 cy xh xq), (xc40 cy xh xq), (xc41 cy xh xq)] sz)) 0 0 (va_A [(xc0 cy xh xq), (xc40 cy xh xq), (xc41 cy xh xq)] sz) := by
  refine met_go (y := yX11_end) (ws := wsX11_end) (av := [.ref xh, .int xn]) (cc := cX11_end) (maxL := 2) (ret := (some .int)) (Qc := fun A => wQi D (fEnd xn) (fun _ : Unit => True) (fun _u : Unit => []) A) (by decide) rfl (Nat.le_of_ble_eq_true rfl) ?_
  intro p e s m below meth c ls A hx hb hr hml hown hts hlocks hname hKX hP hD hA hS hl
  have hown : s.vm.findClass RX11 = some m.cls := hown
  have hl : lv_has ls 2 [(0, .ref xh), (1, .int xn)] := hl
  refine lv_iload_n hx hb dX11_end_0 rfl (lv_at hl 1 rfl) ?_
  refine lv_iconst (v := 0) hx hb dX11_end_1 (by decide) ?_
  refine lv_aload_n hx hb dX11_end_2 rfl (lv_at hl 0 rfl) ?_
  refine va_get (D := D) (ci := 11) (v := .ref (xq 39)) (C := RX11) (T := TX11) (N := 18) hx hb hts iw_X11_end_X11 hown hKX.1 hP 0 rfl rfl 3 (by decide) (hts (.fieldLink RX11 32 "TrainFerry" "reader" "LTrainFerry$AgreementReader;") (by decide +kernel)) (fun _ h9 => h9) rfl dX11_end_3 ?_
  refine va_get (D := D) (ci := 1) (v := .ref (xq 40)) (C := RX1) (T := TX1) (N := 6) hx hb hts iw_X11_end_X1 hown hKX.1 hP 1 rfl rfl 0 (by decide) (hts (.fieldLink RX11 156 "TrainFerry$AgreementReader" "tape" "LTrainFerry$Tape;") (by decide +kernel)) (fun _ h9 => h9) rfl dX11_end_6 ?_
  refine va_get (D := D) (ci := 9) (v := .int 0) (C := RX9) (T := TX9) (N := 2) hx hb hts iw_X11_end_X9 hown hKX.1 hP 2 rfl rfl 1 (by decide) (hts (.fieldLink RX11 160 "TrainFerry$Tape" "size" "I") (by decide +kernel)) (fun _ h9 => h9) rfl dX11_end_9 ?_
  refine cl_i (wr := [(xc0 cy xh xq), (xc40 cy xh xq), (xc41 cy xh xq)]) (va_runS (As := [.int xn, .int 0, .int 0]) (rest := []) ⟨hx, hb, hml, hown, hts⟩ (c_isWithin l D cy xn 0 0 _) (va_cwS 3 hts gX11_end_X11_isWithin rfl rfl rfl (by decide +kernel) ⟨(Nat.le_of_ble_eq_true rfl), (Nat.le_of_ble_eq_true rfl)⟩) (pre_S hKX hP hD [] rfl (by decide) rfl) rfl rfl hl.1 rfl (lv_room (Nat.le_of_ble_eq_true rfl)) dX11_end_12 ⟨(Nat.le_of_ble_eq_true rfl), (Nat.le_of_ble_eq_true rfl)⟩) hP hD hS hA [] [0, 1, 2] rfl rfl (by decide) (by decide) (fun u1 H locs _ hP hD hS => ?_)
  have hP : va_P D vwCl [(xc0 cy xh xq), (xc40 cy xh xq), (xc41 cy xh xq)] H := hP
  have hD : va_D A [(xc0 cy xh xq), (xc40 cy xh xq), (xc41 cy xh xq)] := hD
  refine lv_if_ne (tgt := 20) hx hb dX11_end_15 (by decide) (fun c2 => ?_) (fun c2 => ?_)
  · refine lv_aload_n hx hb dX11_end_20 rfl (lv_at hl 0 rfl) ?_
    refine va_get (D := D) (ci := 11) (v := .ref (xq 39)) (C := RX11) (T := TX11) (N := 18) hx hb hts iw_X11_end_X11 hown hKX.1 hP 0 rfl rfl 3 (by decide) (hts (.fieldLink RX11 32 "TrainFerry" "reader" "LTrainFerry$AgreementReader;") (by decide +kernel)) (fun _ h9 => h9) rfl dX11_end_21 ?_
    refine va_get (D := D) (ci := 1) (v := .ref (xq 40)) (C := RX1) (T := TX1) (N := 6) hx hb hts iw_X11_end_X1 hown hKX.1 hP 1 rfl rfl 0 (by decide) (hts (.fieldLink RX11 156 "TrainFerry$AgreementReader" "tape" "LTrainFerry$Tape;") (by decide +kernel)) (fun _ h9 => h9) rfl dX11_end_24 ?_
    refine lv_iload_n hx hb dX11_end_27 rfl (lv_at hl 1 rfl) ?_
    refine va_put (D := D) (ci := 9) (v := .int xn) (ty := .int) (C := RX9) (T := TX9) (N := 2) hx hb hts iw_X11_end_X9 tyX9 tyX9_ok nmX9 hown hKX.1 hP hD hS 2 rfl rfl 1 (by decide) (hts (.fieldLink RX11 160 "TrainFerry$Tape" "size" "I") (by decide +kernel)) (fun _ h9 => h9) rfl (by decide +kernel) rfl rfl (Nat.le_of_ble_eq_true rfl) dX11_end_28 (fun H locs hP hD hS => ?_)
    have hP : va_P D vwCl [(xc0 cy xh xq), (xc40 cy xh xq), ((xq 40), .inr (9, [.ref (xq 41), .int xn]))] H := hP
    have hD : va_D A [(xc0 cy xh xq), (xc40 cy xh xq), ((xq 40), .inr (9, [.ref (xq 41), .int xn]))] := hD
    refine lv_iload_n hx hb dX11_end_31 rfl (lv_at hl 1 rfl) ?_
    exact en_i hx hb hr hlocks () (by simp [fEnd, wic1, wic2, wic3, wic4, wic5, wic6, c2]) trivial (hP.sub [] rfl) (hD.sub [] (by decide) rfl) hS (Nat.le_of_ble_eq_true rfl) (Nat.le_of_ble_eq_true rfl) dX11_end_32
  · refine lv_iconst (v := (-1)) hx hb dX11_end_18 (by decide) ?_
    exact en_i hx hb hr hlocks () (by simp [fEnd, wic1, wic2, wic3, wic4, wic5, wic6, c2]) trivial (hP.sub [] rfl) (hD.sub [] (by decide) rfl) hS (Nat.le_of_ble_eq_true rfl) (Nat.le_of_ble_eq_true rfl) dX11_end_19
theorem iw_X0_init_X0 : ∀ w ∈ wsX00, w ∈ wsX0_init := by decide +kernel
set_option maxHeartbeats 4000000 in
set_option maxRecDepth 100000 in
theorem c_Agreement_init (l : Launch) (D : va_G) (cy : Nat → ClassId) (h : Nat) (sz : Nat) : Met l yX0_init wsX0_init ({ frames := 1, cells := 2, slots := 8, locals := 12 }) (wPre D cy [.ref h] sz [(h, .inr (0, [.null, .null, .int 0]))]) (wQv D (fun _ : (Nat → Nat) => True) (fun u : (Nat → Nat) => [(h, .inr (0, [.ref (u 0), .ref (u 1), .int 0])), ((u 0), .inl (cy 0, 4, .inl (fun _ => 0))), ((u 1), .inl (cy 0, 4, .inl (fun _ => 0)))]) (va_A [(h, .inr (0, [.null, .null, .int 0]))] sz)) 2 8 (va_A [(h, .inr (0, [.null, .null, .int 0]))] sz) := by
  refine met_go (y := yX0_init) (ws := wsX0_init) (av := [.ref h]) (cc := cX0_init) (maxL := 1) (ret := none) (Qc := fun A => wQv D (fun _ : (Nat → Nat) => True) (fun u : (Nat → Nat) => [(h, .inr (0, [.ref (u 0), .ref (u 1), .int 0])), ((u 0), .inl (cy 0, 4, .inl (fun _ => 0))), ((u 1), .inl (cy 0, 4, .inl (fun _ => 0)))]) A) (by decide) rfl (Nat.le_of_ble_eq_true rfl) ?_
  intro p e s m below meth c ls A hx hb hr hml hown hts hlocks hname hKX hP hD hA hS hl
  have hown : s.vm.findClass RX0 = some m.cls := hown
  have hl : lv_has ls 1 [(0, .ref h)] := hl
  refine lv_aload_n hx hb dX0_init_0 rfl (lv_at hl 0 rfl) ?_
  refine W.objInit hx hb hown (hts (.methodLink RX0 3 objectInit) (by decide +kernel)) (hts (.instanceMethod objectInit) (by decide +kernel)) (hts (.code objectInit ⟨#[0xb1]⟩ 1 none) (by decide +kernel)) rfl (by rw [hml]; exact hl.1) rfl dX0_init_1 (Nat.le_of_ble_eq_true rfl) (Nat.le_of_ble_eq_true rfl) ?_
  refine W.eq (g2 := F0 m 4 ls []) rfl ?_
  refine lv_aload_n hx hb dX0_init_4 rfl (lv_at hl 0 rfl) ?_
  refine lv_iconst (v := 4) hx hb dX0_init_5 (by decide) ?_
  refine nw_a (atype := .int) (a0 := (4, .inl (fun _ => 0))) hx hb (hts (.arrayClass .int) (by decide +kernel)) (ty := .int) rfl hKX hP hD hS hA 0 rfl (fun cA => (vp_cell_i cA 4 _).trans (congrArg (arrV cA 4) (funext fun _ => rfl))) (by decide) (by decide) (by decide +kernel) (Nat.le_of_ble_eq_true rfl) (Nat.le_of_ble_eq_true rfl) dX0_init_6 (fun q1 H hP hD hS => ?_)
  have hP : va_P D vwCl [(h, .inr (0, [.null, .null, .int 0])), (q1, .inl (cy 0, 4, .inl (fun _ => 0)))] H := hP
  have hD : va_D A [(h, .inr (0, [.null, .null, .int 0])), (q1, .inl (cy 0, 4, .inl (fun _ => 0)))] := hD
  refine va_putF (D := D) (ci := 0) (v := .ref q1) (ty := (tyX0 0)) (C := RX0) (T := TX0) (N := 3) hx hb hts iw_X0_init_X0 tyX0 tyX0_ok nmX0 hown hKX.1 hP hD hS 0 rfl rfl 0 (by decide) (hts (.fieldLink RX0 9 "TrainFerry$Agreement" "rates" "[I") (by decide +kernel)) (fun _ h9 => h9) rfl hname rfl (by decide +kernel) rfl rfl (Nat.le_of_ble_eq_true rfl) dX0_init_8 (fun H locs hP hD hS => ?_)
  have hP : va_P D vwCl [(h, .inr (0, [.ref q1, .null, .int 0])), (q1, .inl (cy 0, 4, .inl (fun _ => 0)))] H := hP
  have hD : va_D A [(h, .inr (0, [.ref q1, .null, .int 0])), (q1, .inl (cy 0, 4, .inl (fun _ => 0)))] := hD
  refine lv_aload_n hx hb dX0_init_11 rfl (lv_at hl 0 rfl) ?_
  refine lv_iconst (v := 4) hx hb dX0_init_12 (by decide) ?_
  refine nw_a (atype := .int) (a0 := (4, .inl (fun _ => 0))) hx hb (hts (.arrayClass .int) (by decide +kernel)) (ty := .int) rfl hKX hP hD hS hA 0 rfl (fun cA => (vp_cell_i cA 4 _).trans (congrArg (arrV cA 4) (funext fun _ => rfl))) (by decide) (by decide) (by decide +kernel) (Nat.le_of_ble_eq_true rfl) (Nat.le_of_ble_eq_true rfl) dX0_init_13 (fun q2 H hP hD hS => ?_)
  have hP : va_P D vwCl [(h, .inr (0, [.ref q1, .null, .int 0])), (q1, .inl (cy 0, 4, .inl (fun _ => 0))), (q2, .inl (cy 0, 4, .inl (fun _ => 0)))] H := hP
  have hD : va_D A [(h, .inr (0, [.ref q1, .null, .int 0])), (q1, .inl (cy 0, 4, .inl (fun _ => 0))), (q2, .inl (cy 0, 4, .inl (fun _ => 0)))] := hD
  refine va_putF (D := D) (ci := 0) (v := .ref q2) (ty := (tyX0 1)) (C := RX0) (T := TX0) (N := 3) hx hb hts iw_X0_init_X0 tyX0 tyX0_ok nmX0 hown hKX.1 hP hD hS 0 rfl rfl 1 (by decide) (hts (.fieldLink RX0 15 "TrainFerry$Agreement" "parties" "[I") (by decide +kernel)) (fun _ h9 => h9) rfl hname rfl (by decide +kernel) rfl rfl (Nat.le_of_ble_eq_true rfl) dX0_init_15 (fun H locs hP hD hS => ?_)
  have hP : va_P D vwCl [(h, .inr (0, [.ref q1, .ref q2, .int 0])), (q1, .inl (cy 0, 4, .inl (fun _ => 0))), (q2, .inl (cy 0, 4, .inl (fun _ => 0)))] H := hP
  have hD : va_D A [(h, .inr (0, [.ref q1, .ref q2, .int 0])), (q1, .inl (cy 0, 4, .inl (fun _ => 0))), (q2, .inl (cy 0, 4, .inl (fun _ => 0)))] := hD
  refine lv_aload_n hx hb dX0_init_18 rfl (lv_at hl 0 rfl) ?_
  refine lv_iconst (v := 0) hx hb dX0_init_19 (by decide) ?_
  refine va_put (D := D) (ci := 0) (v := .int 0) (ty := .int) (C := RX0) (T := TX0) (N := 3) hx hb hts iw_X0_init_X0 tyX0 tyX0_ok nmX0 hown hKX.1 hP hD hS 0 rfl rfl 2 (by decide) (hts (.fieldLink RX0 18 "TrainFerry$Agreement" "free" "I") (by decide +kernel)) (fun _ h9 => h9) rfl (by decide +kernel) rfl rfl (Nat.le_of_ble_eq_true rfl) dX0_init_20 (fun H locs hP hD hS => ?_)
  have hP : va_P D vwCl [(h, .inr (0, [.ref q1, .ref q2, .int 0])), (q1, .inl (cy 0, 4, .inl (fun _ => 0))), (q2, .inl (cy 0, 4, .inl (fun _ => 0)))] H := hP
  have hD : va_D A [(h, .inr (0, [.ref q1, .ref q2, .int 0])), (q1, .inl (cy 0, 4, .inl (fun _ => 0))), (q2, .inl (cy 0, 4, .inl (fun _ => 0)))] := hD
  exact en_v hx hb hr hlocks (lk [q1, q2]) trivial (hP.sub [0, 1, 2] rfl) (hD.sub [0, 1, 2] (by decide) rfl) hS (Nat.le_of_ble_eq_true rfl) (Nat.le_of_ble_eq_true rfl) dX0_init_23
theorem iw_X1_byteAt_X1 : ∀ w ∈ wsX10, w ∈ wsX1_byteAt := by decide +kernel
theorem iw_X1_byteAt_X9 : ∀ w ∈ wsX90, w ∈ wsX1_byteAt := by decide +kernel
set_option maxHeartbeats 4000000 in
set_option maxRecDepth 100000 in
theorem c_byteAt (l : Launch) (D : va_G) (cy : Nat → ClassId) (h : Nat) (t : Nat) (b : Nat) (sz : Nat) : Met l yX1_byteAt wsX1_byteAt ({ frames := 0, cells := 0, slots := 0, locals := 0 }) (wPre D cy [.ref h, .int 0] sz [(h, .inr (1, [.ref t, .int 0, .int (-1), .int 0, .int 0, .int 0])), (t, .inr (9, [.ref b, .int 0]))]) (wQi D (-1) (fun _ : Unit => True) (fun _u : Unit => [(h, .inr (1, [.ref t, .int 0, .int (-1), .int 0, .int 0, .int 0])), (t, .inr (9, [.ref b, .int 0]))]) (va_A [(h, .inr (1, [.ref t, .int 0, .int (-1), .int 0, .int 0, .int 0])), (t, .inr (9, [.ref b, .int 0]))] sz)) 0 0 (va_A [(h, .inr (1, [.ref t, .int 0, .int (-1), .int 0, .int 0, .int 0])), (t, .inr (9, [.ref b, .int 0]))] sz) := by
  refine met_go (y := yX1_byteAt) (ws := wsX1_byteAt) (av := [.ref h, .int 0]) (cc := cX1_byteAt) (maxL := 2) (ret := (some .int)) (Qc := fun A => wQi D (-1) (fun _ : Unit => True) (fun _u : Unit => [(h, .inr (1, [.ref t, .int 0, .int (-1), .int 0, .int 0, .int 0])), (t, .inr (9, [.ref b, .int 0]))]) A) (by decide) rfl (Nat.le_of_ble_eq_true rfl) ?_
  intro p e s m below meth c ls A hx hb hr hml hown hts hlocks hname hKX hP hD hA hS hl
  have hown : s.vm.findClass RX1 = some m.cls := hown
  have hl : lv_has ls 2 [(0, .ref h), (1, .int 0)] := hl
  refine lv_iload_n hx hb dX1_byteAt_0 rfl (lv_at hl 1 rfl) ?_
  refine lv_if_lt (tgt := 34) hx hb dX1_byteAt_1 (by decide) (fun c9 => absurd c9 (by decide)) (fun _ => ?_)
  refine lv_iload_n hx hb dX1_byteAt_4 rfl (lv_at hl 1 rfl) ?_
  refine lv_aload_n hx hb dX1_byteAt_5 rfl (lv_at hl 0 rfl) ?_
  refine va_get (D := D) (ci := 1) (v := .ref t) (C := RX1) (T := TX1) (N := 6) hx hb hts iw_X1_byteAt_X1 hown hKX.1 hP 0 rfl rfl 0 (by decide) (hts (.fieldLink RX1 12 "TrainFerry$AgreementReader" "tape" "LTrainFerry$Tape;") (by decide +kernel)) (fun _ h9 => h9) rfl dX1_byteAt_6 ?_
  refine va_get (D := D) (ci := 9) (v := .int 0) (C := RX9) (T := TX9) (N := 2) hx hb hts iw_X1_byteAt_X9 hown hKX.1 hP 1 rfl rfl 1 (by decide) (hts (.fieldLink RX1 100 "TrainFerry$Tape" "size" "I") (by decide +kernel)) (fun _ h9 => h9) rfl dX1_byteAt_9 ?_
  refine lv_icmp_ge (tgt := 34) hx hb dX1_byteAt_12 (by decide) (fun _ => ?_) (fun c9 => absurd (by decide) c9)
  refine lv_iconst (v := (-1)) hx hb dX1_byteAt_34 (by decide) ?_
  exact en_i hx hb hr hlocks () rfl trivial (hP.sub [0, 1] rfl) (hD.sub [0, 1] (by decide) rfl) hS (Nat.le_of_ble_eq_true rfl) (Nat.le_of_ble_eq_true rfl) dX1_byteAt_35
theorem iw_X1_goOn_X1 : ∀ w ∈ wsX10, w ∈ wsX1_goOn := by decide +kernel
theorem iw_X1_goOn_X9 : ∀ w ∈ wsX90, w ∈ wsX1_goOn := by decide +kernel
set_option maxHeartbeats 4000000 in
set_option maxRecDepth 100000 in
theorem c_goOn (l : Launch) (D : va_G) (cy : Nat → ClassId) (h : Nat) (t : Nat) (b : Nat) (sz : Nat) : Met l yX1_goOn wsX1_goOn ({ frames := 1, cells := 0, slots := 0, locals := 21 }) (wPre D cy [.ref h] sz [(h, .inr (1, [.ref t, .int 0, .int (-1), .int 0, .int 0, .int 0])), (t, .inr (9, [.ref b, .int 0]))]) (wQv D (fun _ : Unit => True) (fun _u : Unit => [(h, .inr (1, [.ref t, .int 0, .int (-1), .int 0, .int 0, .int 0])), (t, .inr (9, [.ref b, .int 0]))]) (va_A [(h, .inr (1, [.ref t, .int 0, .int (-1), .int 0, .int 0, .int 0])), (t, .inr (9, [.ref b, .int 0]))] sz)) 0 0 (va_A [(h, .inr (1, [.ref t, .int 0, .int (-1), .int 0, .int 0, .int 0])), (t, .inr (9, [.ref b, .int 0]))] sz) := by
  refine met_go (y := yX1_goOn) (ws := wsX1_goOn) (av := [.ref h]) (cc := cX1_goOn) (maxL := 2) (ret := none) (Qc := fun A => wQv D (fun _ : Unit => True) (fun _u : Unit => [(h, .inr (1, [.ref t, .int 0, .int (-1), .int 0, .int 0, .int 0])), (t, .inr (9, [.ref b, .int 0]))]) A) (by decide) rfl (Nat.le_of_ble_eq_true rfl) ?_
  intro p e s m below meth c ls A hx hb hr hml hown hts hlocks hname hKX hP hD hA hS hl
  have hown : s.vm.findClass RX1 = some m.cls := hown
  have hl : lv_has ls 2 [(0, .ref h)] := hl
  refine lv_aload_n hx hb dX1_goOn_0 rfl (lv_at hl 0 rfl) ?_
  refine lv_aload_n hx hb dX1_goOn_1 rfl (lv_at hl 0 rfl) ?_
  refine va_get (D := D) (ci := 1) (v := .int 0) (C := RX1) (T := TX1) (N := 6) hx hb hts iw_X1_goOn_X1 hown hKX.1 hP 0 rfl rfl 5 (by decide) (hts (.fieldLink RX1 31 "TrainFerry$AgreementReader" "tokenStop" "I") (by decide +kernel)) (fun _ h9 => h9) rfl dX1_goOn_2 ?_
  refine va_put (D := D) (ci := 1) (v := .int 0) (ty := .int) (C := RX1) (T := TX1) (N := 6) hx hb hts iw_X1_goOn_X1 tyX1 tyX1_ok nmX1 hown hKX.1 hP hD hS 0 rfl rfl 4 (by decide) (hts (.fieldLink RX1 28 "TrainFerry$AgreementReader" "tokenStart" "I") (by decide +kernel)) (fun _ h9 => h9) rfl (by decide +kernel) rfl rfl (Nat.le_of_ble_eq_true rfl) dX1_goOn_5 (fun H locs hP hD hS => ?_)
  have hP : va_P D vwCl [(h, .inr (1, [.ref t, .int 0, .int (-1), .int 0, .int 0, .int 0])), (t, .inr (9, [.ref b, .int 0]))] H := hP
  have hD : va_D A [(h, .inr (1, [.ref t, .int 0, .int (-1), .int 0, .int 0, .int 0])), (t, .inr (9, [.ref b, .int 0]))] := hD
  refine lv_aload_n hx hb dX1_goOn_8 rfl (lv_at hl 0 rfl) ?_
  refine va_get (D := D) (ci := 1) (v := .int 0) (C := RX1) (T := TX1) (N := 6) hx hb hts iw_X1_goOn_X1 hown hKX.1 hP 0 rfl rfl 4 (by decide) (hts (.fieldLink RX1 28 "TrainFerry$AgreementReader" "tokenStart" "I") (by decide +kernel)) (fun _ h9 => h9) rfl dX1_goOn_9 ?_
  refine lv_aload_n hx hb dX1_goOn_12 rfl (lv_at hl 0 rfl) ?_
  refine va_get (D := D) (ci := 1) (v := .ref t) (C := RX1) (T := TX1) (N := 6) hx hb hts iw_X1_goOn_X1 hown hKX.1 hP 0 rfl rfl 0 (by decide) (hts (.fieldLink RX1 12 "TrainFerry$AgreementReader" "tape" "LTrainFerry$Tape;") (by decide +kernel)) (fun _ h9 => h9) rfl dX1_goOn_13 ?_
  refine va_get (D := D) (ci := 9) (v := .int 0) (C := RX9) (T := TX9) (N := 2) hx hb hts iw_X1_goOn_X9 hown hKX.1 hP 1 rfl rfl 1 (by decide) (hts (.fieldLink RX1 100 "TrainFerry$Tape" "size" "I") (by decide +kernel)) (fun _ h9 => h9) rfl dX1_goOn_16 ?_
  refine lv_icmp_ge (tgt := 49) hx hb dX1_goOn_19 (by decide) (fun _ => ?_) (fun c9 => absurd (by decide) c9)
  refine lv_aload_n hx hb dX1_goOn_49 rfl (lv_at hl 0 rfl) ?_
  refine lv_aload_n hx hb dX1_goOn_50 rfl (lv_at hl 0 rfl) ?_
  refine va_get (D := D) (ci := 1) (v := .int 0) (C := RX1) (T := TX1) (N := 6) hx hb hts iw_X1_goOn_X1 hown hKX.1 hP 0 rfl rfl 4 (by decide) (hts (.fieldLink RX1 28 "TrainFerry$AgreementReader" "tokenStart" "I") (by decide +kernel)) (fun _ h9 => h9) rfl dX1_goOn_51 ?_
  refine va_put (D := D) (ci := 1) (v := .int 0) (ty := .int) (C := RX1) (T := TX1) (N := 6) hx hb hts iw_X1_goOn_X1 tyX1 tyX1_ok nmX1 hown hKX.1 hP hD hS 0 rfl rfl 5 (by decide) (hts (.fieldLink RX1 31 "TrainFerry$AgreementReader" "tokenStop" "I") (by decide +kernel)) (fun _ h9 => h9) rfl (by decide +kernel) rfl rfl (Nat.le_of_ble_eq_true rfl) dX1_goOn_54 (fun H locs hP hD hS => ?_)
  have hP : va_P D vwCl [(h, .inr (1, [.ref t, .int 0, .int (-1), .int 0, .int 0, .int 0])), (t, .inr (9, [.ref b, .int 0]))] H := hP
  have hD : va_D A [(h, .inr (1, [.ref t, .int 0, .int (-1), .int 0, .int 0, .int 0])), (t, .inr (9, [.ref b, .int 0]))] := hD
  refine lv_aload_n hx hb dX1_goOn_57 rfl (lv_at hl 0 rfl) ?_
  refine lv_aload_n hx hb dX1_goOn_58 rfl (lv_at hl 0 rfl) ?_
  refine va_get (D := D) (ci := 1) (v := .int 0) (C := RX1) (T := TX1) (N := 6) hx hb hts iw_X1_goOn_X1 hown hKX.1 hP 0 rfl rfl 4 (by decide) (hts (.fieldLink RX1 28 "TrainFerry$AgreementReader" "tokenStart" "I") (by decide +kernel)) (fun _ h9 => h9) rfl dX1_goOn_59 ?_
  refine cl_i (wr := []) (va_runV (As := [.int 0]) (rest := []) ⟨hx, hb, hml, hown, hts⟩ (c_byteAt l D cy h t b _) (cwV 1 hts gX1_goOn_X1_byteAt rfl rfl rfl (by decide +kernel) ⟨(Nat.le_of_ble_eq_true rfl), (Nat.le_of_ble_eq_true rfl)⟩) (pre_V hKX hP hD (ci := 1) (q0 := 0) rfl rfl [0, 1] rfl (by decide) rfl) rfl rfl hl.1 rfl (lv_room (Nat.le_of_ble_eq_true rfl)) dX1_goOn_62 ⟨(Nat.le_of_ble_eq_true rfl), (Nat.le_of_ble_eq_true rfl)⟩) hP hD hS hA [0, 1] [] rfl rfl (by decide) (by decide) (fun u1 H locs _ hP hD hS => ?_)
  have hP : va_P D vwCl [(h, .inr (1, [.ref t, .int 0, .int (-1), .int 0, .int 0, .int 0])), (t, .inr (9, [.ref b, .int 0]))] H := hP
  have hD : va_D A [(h, .inr (1, [.ref t, .int 0, .int (-1), .int 0, .int 0, .int 0])), (t, .inr (9, [.ref b, .int 0]))] := hD
  refine lv_istore_n (lv' := [(1, .int (-1)), (0, .ref h)]) hx hb dX1_goOn_65 rfl hl (by decide) rfl (fun ls hl => ?_)
  refine lv_iload_n hx hb dX1_goOn_66 rfl (lv_at hl 0 rfl) ?_
  refine lv_iconst (v := (-1)) hx hb dX1_goOn_67 (by decide) ?_
  refine lv_icmp_ne (tgt := 79) hx hb dX1_goOn_68 (by decide) (fun c9 => absurd (by decide) c9) (fun _ => ?_)
  refine lv_aload_n hx hb dX1_goOn_71 rfl (lv_at hl 1 rfl) ?_
  refine lv_iconst (v := 0) hx hb dX1_goOn_72 (by decide) ?_
  refine va_put (D := D) (ci := 1) (v := .int 0) (ty := .int) (C := RX1) (T := TX1) (N := 6) hx hb hts iw_X1_goOn_X1 tyX1 tyX1_ok nmX1 hown hKX.1 hP hD hS 0 rfl rfl 3 (by decide) (hts (.fieldLink RX1 25 "TrainFerry$AgreementReader" "token" "I") (by decide +kernel)) (fun _ h9 => h9) rfl (by decide +kernel) rfl rfl (Nat.le_of_ble_eq_true rfl) dX1_goOn_73 (fun H locs hP hD hS => ?_)
  have hP : va_P D vwCl [(h, .inr (1, [.ref t, .int 0, .int (-1), .int 0, .int 0, .int 0])), (t, .inr (9, [.ref b, .int 0]))] H := hP
  have hD : va_D A [(h, .inr (1, [.ref t, .int 0, .int (-1), .int 0, .int 0, .int 0])), (t, .inr (9, [.ref b, .int 0]))] := hD
  refine lv_goto (tgt := 159) hx hb dX1_goOn_76 (by decide) ?_
  exact en_v hx hb hr hlocks () trivial (hP.sub [0, 1] rfl) (hD.sub [0, 1] (by decide) rfl) hS (Nat.le_of_ble_eq_true rfl) (Nat.le_of_ble_eq_true rfl) dX1_goOn_159
theorem iw_X1_read_X1 : ∀ w ∈ wsX10, w ∈ wsX1_read := by decide +kernel
theorem iw_X1_read_X0 : ∀ w ∈ wsX00, w ∈ wsX1_read := by decide +kernel
set_option maxHeartbeats 4000000 in
set_option maxRecDepth 100000 in
theorem c_read (l : Launch) (D : va_G) (cy : Nat → ClassId) (h : Nat) (t : Nat) (b : Nat) (sz : Nat) : Met l yX1_read wsX1_read ({ frames := 2, cells := 3, slots := 11, locals := 42 }) (wPre D cy [.ref h] sz [(h, .inr (1, [.ref t, .int 0, .int (-1), .int 0, .int 0, .int 0])), (t, .inr (9, [.ref b, .int 0]))]) (wQq D (fun u : (Nat → Nat) => some (u 0)) (fun _ : (Nat → Nat) => True) (fun u : (Nat → Nat) => [((u 0), .inr (0, [.ref (u 1), .ref (u 2), .int 0])), ((u 1), .inl (cy 0, 4, .inl (fun _ => 0))), ((u 2), .inl (cy 0, 4, .inl (fun _ => 0))), (h, .inr (1, [.ref t, .int 0, .int (-1), .int 0, .int 0, .int 0])), (t, .inr (9, [.ref b, .int 0]))]) (va_A [(h, .inr (1, [.ref t, .int 0, .int (-1), .int 0, .int 0, .int 0])), (t, .inr (9, [.ref b, .int 0]))] sz)) 3 11 (va_A [(h, .inr (1, [.ref t, .int 0, .int (-1), .int 0, .int 0, .int 0])), (t, .inr (9, [.ref b, .int 0]))] sz) := by
  refine met_go (y := yX1_read) (ws := wsX1_read) (av := [.ref h]) (cc := cX1_read) (maxL := 3) (ret := (some (.object "TrainFerry$Agreement"))) (Qc := fun A => wQq D (fun u : (Nat → Nat) => some (u 0)) (fun _ : (Nat → Nat) => True) (fun u : (Nat → Nat) => [((u 0), .inr (0, [.ref (u 1), .ref (u 2), .int 0])), ((u 1), .inl (cy 0, 4, .inl (fun _ => 0))), ((u 2), .inl (cy 0, 4, .inl (fun _ => 0))), (h, .inr (1, [.ref t, .int 0, .int (-1), .int 0, .int 0, .int 0])), (t, .inr (9, [.ref b, .int 0]))]) A) (by decide) rfl (Nat.le_of_ble_eq_true rfl) ?_
  intro p e s m below meth c ls A hx hb hr hml hown hts hlocks hname hKX hP hD hA hS hl
  have hown : s.vm.findClass RX1 = some m.cls := hown
  have hl : lv_has ls 3 [(0, .ref h)] := hl
  refine lv_aload_n hx hb dX1_read_0 rfl (lv_at hl 0 rfl) ?_
  refine lv_iconst (v := 0) hx hb dX1_read_1 (by decide) ?_
  refine va_put (D := D) (ci := 1) (v := .int 0) (ty := .int) (C := RX1) (T := TX1) (N := 6) hx hb hts iw_X1_read_X1 tyX1 tyX1_ok nmX1 hown hKX.1 hP hD hS 0 rfl rfl 5 (by decide) (hts (.fieldLink RX1 31 "TrainFerry$AgreementReader" "tokenStop" "I") (by decide +kernel)) (fun _ h9 => h9) rfl (by decide +kernel) rfl rfl (Nat.le_of_ble_eq_true rfl) dX1_read_2 (fun H locs hP hD hS => ?_)
  have hP : va_P D vwCl [(h, .inr (1, [.ref t, .int 0, .int (-1), .int 0, .int 0, .int 0])), (t, .inr (9, [.ref b, .int 0]))] H := hP
  have hD : va_D A [(h, .inr (1, [.ref t, .int 0, .int (-1), .int 0, .int 0, .int 0])), (t, .inr (9, [.ref b, .int 0]))] := hD
  refine lv_aload_n hx hb dX1_read_5 rfl (lv_at hl 0 rfl) ?_
  refine lv_iconst (v := 0) hx hb dX1_read_6 (by decide) ?_
  refine va_put (D := D) (ci := 1) (v := .int 0) (ty := .int) (C := RX1) (T := TX1) (N := 6) hx hb hts iw_X1_read_X1 tyX1 tyX1_ok nmX1 hown hKX.1 hP hD hS 0 rfl rfl 1 (by decide) (hts (.fieldLink RX1 18 "TrainFerry$AgreementReader" "faultKind" "I") (by decide +kernel)) (fun _ h9 => h9) rfl (by decide +kernel) rfl rfl (Nat.le_of_ble_eq_true rfl) dX1_read_7 (fun H locs hP hD hS => ?_)
  have hP : va_P D vwCl [(h, .inr (1, [.ref t, .int 0, .int (-1), .int 0, .int 0, .int 0])), (t, .inr (9, [.ref b, .int 0]))] H := hP
  have hD : va_D A [(h, .inr (1, [.ref t, .int 0, .int (-1), .int 0, .int 0, .int 0])), (t, .inr (9, [.ref b, .int 0]))] := hD
  refine lv_aload_n hx hb dX1_read_10 rfl (lv_at hl 0 rfl) ?_
  refine lv_iconst (v := (-1)) hx hb dX1_read_11 (by decide) ?_
  refine va_put (D := D) (ci := 1) (v := .int (-1)) (ty := .int) (C := RX1) (T := TX1) (N := 6) hx hb hts iw_X1_read_X1 tyX1 tyX1_ok nmX1 hown hKX.1 hP hD hS 0 rfl rfl 2 (by decide) (hts (.fieldLink RX1 22 "TrainFerry$AgreementReader" "faultPlace" "I") (by decide +kernel)) (fun _ h9 => h9) rfl (by decide +kernel) rfl rfl (Nat.le_of_ble_eq_true rfl) dX1_read_12 (fun H locs hP hD hS => ?_)
  have hP : va_P D vwCl [(h, .inr (1, [.ref t, .int 0, .int (-1), .int 0, .int 0, .int 0])), (t, .inr (9, [.ref b, .int 0]))] H := hP
  have hD : va_D A [(h, .inr (1, [.ref t, .int 0, .int (-1), .int 0, .int 0, .int 0])), (t, .inr (9, [.ref b, .int 0]))] := hD
  refine va_new (ci := 0) (fs := [.null, .null, .int 0]) (C := RX0) (T := TX0) (N := 3) hx hb hts iw_X1_read_X0 tyX0 tyX0_ok hown (hts (.classLink RX1 34 RX0) (by decide +kernel)) (hts (.instantiable RX0 3) (by decide +kernel)) (hts (.initialized RX0) (by decide +kernel)) hKX.1 hP hD hS hA rfl (fun j hj => by rcases (show j = 0 ∨ j = 1 ∨ j = 2 by omega) with rfl | rfl | rfl <;> rfl) (Nat.le_of_ble_eq_true rfl) (Nat.le_of_ble_eq_true rfl) dX1_read_15 (fun q1 H hP hD hS => ?_)
  have hP : va_P D vwCl [(h, .inr (1, [.ref t, .int 0, .int (-1), .int 0, .int 0, .int 0])), (t, .inr (9, [.ref b, .int 0])), (q1, .inr (0, [.null, .null, .int 0]))] H := hP
  have hD : va_D A [(h, .inr (1, [.ref t, .int 0, .int (-1), .int 0, .int 0, .int 0])), (t, .inr (9, [.ref b, .int 0])), (q1, .inr (0, [.null, .null, .int 0]))] := hD
  refine lv_dup hx hb dX1_read_18 rfl ?_
  refine cl_v (wr := [(h, .inr (1, [.ref t, .int 0, .int (-1), .int 0, .int 0, .int 0])), (t, .inr (9, [.ref b, .int 0]))]) (va_runIN (As := []) (rest := [.ref q1]) ⟨hx, hb, hml, hown, hts⟩ (c_Agreement_init l D cy q1 _) ⟨va_cnB 0 hts gX1_read_X0_init_n36 rfl rfl rfl (hKX.2.1 (.methodLinkNest RX1 36 yX0_init RX11) (by decide +kernel)) (hts (.initialized RX0) (by decide +kernel)) (by decide +kernel) ⟨(Nat.le_of_ble_eq_true rfl), (Nat.le_of_ble_eq_true rfl)⟩, rfl, hts (.instanceMethod yX0_init) (by decide +kernel)⟩ (pre_S hKX hP hD [2] rfl (by decide) rfl) rfl rfl hl.1 rfl (lv_room (Nat.le_of_ble_eq_true rfl)) dX1_read_19 ⟨(Nat.le_of_ble_eq_true rfl), (Nat.le_of_ble_eq_true rfl)⟩) hP hD hS hA [2] [0, 1] rfl rfl (by decide) (by decide) (fun u2 H locs _ hP hD hS => ?_)
  have hP : va_P D vwCl [(h, .inr (1, [.ref t, .int 0, .int (-1), .int 0, .int 0, .int 0])), (t, .inr (9, [.ref b, .int 0])), (q1, .inr (0, [.ref (u2 0), .ref (u2 1), .int 0])), ((u2 0), .inl (cy 0, 4, .inl (fun _ => 0))), ((u2 1), .inl (cy 0, 4, .inl (fun _ => 0)))] H := hP
  have hD : va_D A [(h, .inr (1, [.ref t, .int 0, .int (-1), .int 0, .int 0, .int 0])), (t, .inr (9, [.ref b, .int 0])), (q1, .inr (0, [.ref (u2 0), .ref (u2 1), .int 0])), ((u2 0), .inl (cy 0, 4, .inl (fun _ => 0))), ((u2 1), .inl (cy 0, 4, .inl (fun _ => 0)))] := hD
  refine lv_astore_n (lv' := [(1, .ref q1), (0, .ref h)]) hx hb dX1_read_22 rfl hl (by decide) rfl (fun ls hl => ?_)
  refine lv_aload_n hx hb dX1_read_23 rfl (lv_at hl 1 rfl) ?_
  refine cl_v (wr := [(q1, .inr (0, [.ref (u2 0), .ref (u2 1), .int 0])), ((u2 0), .inl (cy 0, 4, .inl (fun _ => 0))), ((u2 1), .inl (cy 0, 4, .inl (fun _ => 0)))]) (va_runV (As := []) (rest := []) ⟨hx, hb, hml, hown, hts⟩ (c_goOn l D cy h t b _) (cwV 0 hts gX1_read_X1_goOn rfl rfl rfl (by decide +kernel) ⟨(Nat.le_of_ble_eq_true rfl), (Nat.le_of_ble_eq_true rfl)⟩) (pre_V hKX hP hD (ci := 1) (q0 := 0) rfl rfl [0, 1] rfl (by decide) rfl) rfl rfl hl.1 rfl (lv_room (Nat.le_of_ble_eq_true rfl)) dX1_read_24 ⟨(Nat.le_of_ble_eq_true rfl), (Nat.le_of_ble_eq_true rfl)⟩) hP hD hS hA [0, 1] [2, 3, 4] rfl rfl (by decide) (by decide) (fun u3 H locs _ hP hD hS => ?_)
  have hP : va_P D vwCl [(q1, .inr (0, [.ref (u2 0), .ref (u2 1), .int 0])), ((u2 0), .inl (cy 0, 4, .inl (fun _ => 0))), ((u2 1), .inl (cy 0, 4, .inl (fun _ => 0))), (h, .inr (1, [.ref t, .int 0, .int (-1), .int 0, .int 0, .int 0])), (t, .inr (9, [.ref b, .int 0]))] H := hP
  have hD : va_D A [(q1, .inr (0, [.ref (u2 0), .ref (u2 1), .int 0])), ((u2 0), .inl (cy 0, 4, .inl (fun _ => 0))), ((u2 1), .inl (cy 0, 4, .inl (fun _ => 0))), (h, .inr (1, [.ref t, .int 0, .int (-1), .int 0, .int 0, .int 0])), (t, .inr (9, [.ref b, .int 0]))] := hD
  refine lv_iconst (v := 0) hx hb dX1_read_27 (by decide) ?_
  refine lv_istore_n (lv' := [(2, .int 0), (1, .ref q1), (0, .ref h)]) hx hb dX1_read_28 rfl hl (by decide) rfl (fun ls hl => ?_)
  refine lv_iload_n hx hb dX1_read_29 rfl (lv_at hl 0 rfl) ?_
  refine lv_bipush (v := 20) hx hb dX1_read_30 (by decide) ?_
  refine lv_icmp_gt (tgt := 59) hx hb dX1_read_32 (by decide) (fun c9 => absurd c9 (by decide)) (fun _ => ?_)
  refine lv_aload_n hx hb dX1_read_35 rfl (lv_at hl 2 rfl) ?_
  refine va_get (D := D) (ci := 1) (v := .int 0) (C := RX1) (T := TX1) (N := 6) hx hb hts iw_X1_read_X1 hown hKX.1 hP 3 rfl rfl 3 (by decide) (hts (.fieldLink RX1 25 "TrainFerry$AgreementReader" "token" "I") (by decide +kernel)) (fun _ h9 => h9) rfl dX1_read_36 ?_
  refine lv_if_eq (tgt := 59) hx hb dX1_read_39 (by decide) (fun _ => ?_) (fun c9 => absurd (by decide) c9)
  refine lv_aload_n hx hb dX1_read_59 rfl (lv_at hl 1 rfl) ?_
  exact en_q (v' := (some q1)) hx hb hr (Or.inl ⟨_, rfl⟩) hlocks rfl (lk [q1, (u2 0), (u2 1)]) rfl trivial (hP.sub [0, 1, 2, 3, 4] rfl) (hD.sub [0, 1, 2, 3, 4] (by decide) rfl) hS (Nat.le_of_ble_eq_true rfl) (Nat.le_of_ble_eq_true rfl) dX1_read_60
theorem iw_X11_agree_X11 : ∀ w ∈ wsX110, w ∈ wsX11_agree := by decide +kernel
theorem iw_X11_agree_X6 : ∀ w ∈ wsX60, w ∈ wsX11_agree := by decide +kernel
theorem iw_X11_agree_X1 : ∀ w ∈ wsX10, w ∈ wsX11_agree := by decide +kernel
theorem iw_X11_agree_X9 : ∀ w ∈ wsX90, w ∈ wsX11_agree := by decide +kernel
set_option maxHeartbeats 4000000 in
set_option maxRecDepth 100000 in
theorem c_agree (l : Launch) (D : va_G) (cy : Nat → ClassId) (xh : Nat) (xq : Nat → Nat) (xt : Int32) (sz : Nat) : Met l yX11_agree wsX11_agree ({ frames := 3, cells := 3, slots := 11, locals := 64 }) (wPre D cy [.ref xh, .int xt] sz [(xc0 cy xh xq), (xc40 cy xh xq), (xc41 cy xh xq), (xc43 cy xh xq), (xc44 cy xh xq), (xc45 cy xh xq), (xc46 cy xh xq)]) (wQi D (fAgree xt) (fun _ : Unit => True) (fun _u : Unit => []) (va_A [(xc0 cy xh xq), (xc40 cy xh xq), (xc41 cy xh xq), (xc43 cy xh xq), (xc44 cy xh xq), (xc45 cy xh xq), (xc46 cy xh xq)] sz)) 3 11 (va_A [(xc0 cy xh xq), (xc40 cy xh xq), (xc41 cy xh xq), (xc43 cy xh xq), (xc44 cy xh xq), (xc45 cy xh xq), (xc46 cy xh xq)] sz) := by
  refine met_go (y := yX11_agree) (ws := wsX11_agree) (av := [.ref xh, .int xt]) (cc := cX11_agree) (maxL := 4) (ret := (some .int)) (Qc := fun A => wQi D (fAgree xt) (fun _ : Unit => True) (fun _u : Unit => []) A) (by decide) rfl (Nat.le_of_ble_eq_true rfl) ?_
  intro p e s m below meth c ls A hx hb hr hml hown hts hlocks hname hKX hP hD hA hS hl
  have hown : s.vm.findClass RX11 = some m.cls := hown
  have hl : lv_has ls 4 [(0, .ref xh), (1, .int xt)] := hl
  refine lv_aload_n hx hb dX11_agree_0 rfl (lv_at hl 0 rfl) ?_
  refine va_get (D := D) (ci := 11) (v := .ref (xq 43)) (C := RX11) (T := TX11) (N := 18) hx hb hts iw_X11_agree_X11 hown hKX.1 hP 0 rfl rfl 5 (by decide) (hts (.fieldLink RX11 47 "TrainFerry" "agreed" "LTrainFerry$Schedule;") (by decide +kernel)) (fun _ h9 => h9) rfl dX11_agree_1 ?_
  refine va_get (D := D) (ci := 6) (v := .int 0) (C := RX6) (T := TX6) (N := 4) hx hb hts iw_X11_agree_X6 hown hKX.1 hP 4 rfl rfl 2 (by decide) (hts (.fieldLink RX11 144 "TrainFerry$Schedule" "size" "I") (by decide +kernel)) (fun _ h9 => h9) rfl dX11_agree_4 ?_
  refine lv_istore_n (lv' := [(2, .int 0), (0, .ref xh), (1, .int xt)]) hx hb dX11_agree_7 rfl hl (by decide) rfl (fun ls hl => ?_)
  refine lv_aload_n hx hb dX11_agree_8 rfl (lv_at hl 1 rfl) ?_
  refine lv_iload_n hx hb dX11_agree_9 rfl (lv_at hl 2 rfl) ?_
  refine cl_i (wr := [(xc40 cy xh xq), (xc41 cy xh xq), (xc43 cy xh xq), (xc44 cy xh xq), (xc45 cy xh xq), (xc46 cy xh xq)]) (va_runV (As := [.int xt]) (rest := []) ⟨hx, hb, hml, hown, hts⟩ (c_canBeTold l D cy xh xq xt _) (cwV 1 hts gX11_agree_X11_canBeTold rfl rfl rfl (by decide +kernel) ⟨(Nat.le_of_ble_eq_true rfl), (Nat.le_of_ble_eq_true rfl)⟩) (pre_V hKX hP hD (ci := 11) (q0 := 0) rfl rfl [0] rfl (by decide) rfl) rfl rfl hl.1 rfl (lv_room (Nat.le_of_ble_eq_true rfl)) dX11_agree_10 ⟨(Nat.le_of_ble_eq_true rfl), (Nat.le_of_ble_eq_true rfl)⟩) hP hD hS hA [0] [1, 2, 3, 4, 5, 6] rfl rfl (by decide) (by decide) (fun u1 H locs _ hP hD hS => ?_)
  have hP : va_P D vwCl [(xc40 cy xh xq), (xc41 cy xh xq), (xc43 cy xh xq), (xc44 cy xh xq), (xc45 cy xh xq), (xc46 cy xh xq), (xh, .inr (11, [.ref (xq 0), .ref (xq 23), .ref (xq 38), .ref (xq 39), .ref (xq 42), .ref (xq 43), .null, .null, .int 0, .int 0, .int 0, .int 0, .int 0, .int (-1), .int 0, .int 0, .int 5, .int 100]))] H := hP
  have hD : va_D A [(xc40 cy xh xq), (xc41 cy xh xq), (xc43 cy xh xq), (xc44 cy xh xq), (xc45 cy xh xq), (xc46 cy xh xq), (xh, .inr (11, [.ref (xq 0), .ref (xq 23), .ref (xq 38), .ref (xq 39), .ref (xq 42), .ref (xq 43), .null, .null, .int 0, .int 0, .int 0, .int 0, .int 0, .int (-1), .int 0, .int 0, .int 5, .int 100]))] := hD
  refine lv_if_eq (tgt := 22) hx hb dX11_agree_13 (by decide) (fun c2 => ?_) (fun c2 => ?_)
  · refine lv_iconst (v := (-1)) hx hb dX11_agree_22 (by decide) ?_
    exact en_i hx hb hr hlocks () (by simp [fAgree, wic1, wic2, wic3, wic4, wic5, wic6, c2]) trivial (hP.sub [] rfl) (hD.sub [] (by decide) rfl) hS (Nat.le_of_ble_eq_true rfl) (Nat.le_of_ble_eq_true rfl) dX11_agree_23
  · refine lv_iload_n hx hb dX11_agree_16 rfl (lv_at hl 0 rfl) ?_
    refine lv_bipush (v := 20) hx hb dX11_agree_17 (by decide) ?_
    refine lv_icmp_lt (tgt := 24) hx hb dX11_agree_19 (by decide) (fun _ => ?_) (fun c9 => absurd (by decide) c9)
    refine lv_aload_n hx hb dX11_agree_24 rfl (lv_at hl 1 rfl) ?_
    refine va_get (D := D) (ci := 11) (v := .ref (xq 39)) (C := RX11) (T := TX11) (N := 18) hx hb hts iw_X11_agree_X11 hown hKX.1 hP 6 rfl rfl 3 (by decide) (hts (.fieldLink RX11 32 "TrainFerry" "reader" "LTrainFerry$AgreementReader;") (by decide +kernel)) (fun _ h9 => h9) rfl dX11_agree_25 ?_
    refine cl_q (wr := [(xc43 cy xh xq), (xc44 cy xh xq), (xc45 cy xh xq), (xc46 cy xh xq), (xh, .inr (11, [.ref (xq 0), .ref (xq 23), .ref (xq 38), .ref (xq 39), .ref (xq 42), .ref (xq 43), .null, .null, .int 0, .int 0, .int 0, .int 0, .int 0, .int (-1), .int 0, .int 0, .int 5, .int 100]))]) (va_runV (As := []) (rest := []) ⟨hx, hb, hml, hown, hts⟩ (c_read l D cy (xq 39) (xq 40) (xq 41) _) (cwV 0 hts gX11_agree_X1_read rfl rfl rfl (by decide +kernel) ⟨(Nat.le_of_ble_eq_true rfl), (Nat.le_of_ble_eq_true rfl)⟩) (pre_V hKX hP hD (ci := 1) (q0 := 0) rfl rfl [0, 1] rfl (by decide) rfl) rfl rfl hl.1 rfl (lv_room (Nat.le_of_ble_eq_true rfl)) dX11_agree_28 ⟨(Nat.le_of_ble_eq_true rfl), (Nat.le_of_ble_eq_true rfl)⟩) hP hD hS hA [0, 1] [2, 3, 4, 5, 6] rfl rfl (by decide) (by decide) (fun u3 H locs _ hP hD hS => ?_)
    have hP : va_P D vwCl [(xc43 cy xh xq), (xc44 cy xh xq), (xc45 cy xh xq), (xc46 cy xh xq), (xh, .inr (11, [.ref (xq 0), .ref (xq 23), .ref (xq 38), .ref (xq 39), .ref (xq 42), .ref (xq 43), .null, .null, .int 0, .int 0, .int 0, .int 0, .int 0, .int (-1), .int 0, .int 0, .int 5, .int 100])), ((u3 0), .inr (0, [.ref (u3 1), .ref (u3 2), .int 0])), ((u3 1), .inl (cy 0, 4, .inl (fun _ => 0))), ((u3 2), .inl (cy 0, 4, .inl (fun _ => 0))), ((xq 39), .inr (1, [.ref (xq 40), .int 0, .int (-1), .int 0, .int 0, .int 0])), ((xq 40), .inr (9, [.ref (xq 41), .int 0]))] H := hP
    have hD : va_D A [(xc43 cy xh xq), (xc44 cy xh xq), (xc45 cy xh xq), (xc46 cy xh xq), (xh, .inr (11, [.ref (xq 0), .ref (xq 23), .ref (xq 38), .ref (xq 39), .ref (xq 42), .ref (xq 43), .null, .null, .int 0, .int 0, .int 0, .int 0, .int 0, .int (-1), .int 0, .int 0, .int 5, .int 100])), ((u3 0), .inr (0, [.ref (u3 1), .ref (u3 2), .int 0])), ((u3 1), .inl (cy 0, 4, .inl (fun _ => 0))), ((u3 2), .inl (cy 0, 4, .inl (fun _ => 0))), ((xq 39), .inr (1, [.ref (xq 40), .int 0, .int (-1), .int 0, .int 0, .int 0])), ((xq 40), .inr (9, [.ref (xq 41), .int 0]))] := hD
    refine lv_csv (.ref (u3 0)) rfl ?_
    refine lv_astore_n (lv' := [(3, .ref (u3 0)), (2, .int 0), (0, .ref xh), (1, .int xt)]) hx hb dX11_agree_31 rfl hl (by decide) rfl (fun ls hl => ?_)
    refine lv_aload_n hx hb dX11_agree_32 rfl (lv_at hl 2 rfl) ?_
    refine va_get (D := D) (ci := 11) (v := .ref (xq 39)) (C := RX11) (T := TX11) (N := 18) hx hb hts iw_X11_agree_X11 hown hKX.1 hP 4 rfl rfl 3 (by decide) (hts (.fieldLink RX11 32 "TrainFerry" "reader" "LTrainFerry$AgreementReader;") (by decide +kernel)) (fun _ h9 => h9) rfl dX11_agree_33 ?_
    refine va_get (D := D) (ci := 1) (v := .ref (xq 40)) (C := RX1) (T := TX1) (N := 6) hx hb hts iw_X11_agree_X1 hown hKX.1 hP 8 rfl rfl 0 (by decide) (hts (.fieldLink RX11 156 "TrainFerry$AgreementReader" "tape" "LTrainFerry$Tape;") (by decide +kernel)) (fun _ h9 => h9) rfl dX11_agree_36 ?_
    refine lv_iconst (v := 0) hx hb dX11_agree_39 (by decide) ?_
    refine va_put (D := D) (ci := 9) (v := .int 0) (ty := .int) (C := RX9) (T := TX9) (N := 2) hx hb hts iw_X11_agree_X9 tyX9 tyX9_ok nmX9 hown hKX.1 hP hD hS 9 rfl rfl 1 (by decide) (hts (.fieldLink RX11 160 "TrainFerry$Tape" "size" "I") (by decide +kernel)) (fun _ h9 => h9) rfl (by decide +kernel) rfl rfl (Nat.le_of_ble_eq_true rfl) dX11_agree_40 (fun H locs hP hD hS => ?_)
    have hP : va_P D vwCl [(xc43 cy xh xq), (xc44 cy xh xq), (xc45 cy xh xq), (xc46 cy xh xq), (xh, .inr (11, [.ref (xq 0), .ref (xq 23), .ref (xq 38), .ref (xq 39), .ref (xq 42), .ref (xq 43), .null, .null, .int 0, .int 0, .int 0, .int 0, .int 0, .int (-1), .int 0, .int 0, .int 5, .int 100])), ((u3 0), .inr (0, [.ref (u3 1), .ref (u3 2), .int 0])), ((u3 1), .inl (cy 0, 4, .inl (fun _ => 0))), ((u3 2), .inl (cy 0, 4, .inl (fun _ => 0))), ((xq 39), .inr (1, [.ref (xq 40), .int 0, .int (-1), .int 0, .int 0, .int 0])), ((xq 40), .inr (9, [.ref (xq 41), .int 0]))] H := hP
    have hD : va_D A [(xc43 cy xh xq), (xc44 cy xh xq), (xc45 cy xh xq), (xc46 cy xh xq), (xh, .inr (11, [.ref (xq 0), .ref (xq 23), .ref (xq 38), .ref (xq 39), .ref (xq 42), .ref (xq 43), .null, .null, .int 0, .int 0, .int 0, .int 0, .int 0, .int (-1), .int 0, .int 0, .int 5, .int 100])), ((u3 0), .inr (0, [.ref (u3 1), .ref (u3 2), .int 0])), ((u3 1), .inl (cy 0, 4, .inl (fun _ => 0))), ((u3 2), .inl (cy 0, 4, .inl (fun _ => 0))), ((xq 39), .inr (1, [.ref (xq 40), .int 0, .int (-1), .int 0, .int 0, .int 0])), ((xq 40), .inr (9, [.ref (xq 41), .int 0]))] := hD
    refine lv_aload_n hx hb dX11_agree_43 rfl (lv_at hl 0 rfl) ?_
    refine lv_ifnonnull (tgt := 58) hx hb dX11_agree_44 (by decide) ?_
    refine lv_aload_n hx hb dX11_agree_58 rfl (lv_at hl 2 rfl) ?_
    refine va_get (D := D) (ci := 11) (v := .ref (xq 42)) (C := RX11) (T := TX11) (N := 18) hx hb hts iw_X11_agree_X11 hown hKX.1 hP 4 rfl rfl 4 (by decide) (hts (.fieldLink RX11 38 "TrainFerry" "agreements" "[LTrainFerry$Agreement;") (by decide +kernel)) (fun _ h9 => h9) rfl dX11_agree_59 ?_
    refine lv_iload_n hx hb dX11_agree_62 rfl (lv_at hl 1 rfl) ?_
    refine lv_aload_n hx hb dX11_agree_63 rfl (lv_at hl 0 rfl) ?_
    refine va_astq hx hb hKX.1 hP hD hS 0 7 5 0 rfl rfl rfl rfl (vind (by decide)) dX11_agree_64 (fun H locs hP hD hS => ?_)
    have hP : va_P D vwCl [((xq 42), .inl (cy 7, 20, .inr (.inr (.inr (.inr (va_up (fun _ => none) 0 (some (u3 0)))))))), (xc44 cy xh xq), (xc45 cy xh xq), (xc46 cy xh xq), (xh, .inr (11, [.ref (xq 0), .ref (xq 23), .ref (xq 38), .ref (xq 39), .ref (xq 42), .ref (xq 43), .null, .null, .int 0, .int 0, .int 0, .int 0, .int 0, .int (-1), .int 0, .int 0, .int 5, .int 100])), ((u3 0), .inr (0, [.ref (u3 1), .ref (u3 2), .int 0])), ((u3 1), .inl (cy 0, 4, .inl (fun _ => 0))), ((u3 2), .inl (cy 0, 4, .inl (fun _ => 0))), ((xq 39), .inr (1, [.ref (xq 40), .int 0, .int (-1), .int 0, .int 0, .int 0])), ((xq 40), .inr (9, [.ref (xq 41), .int 0]))] H := hP
    have hD : va_D A [((xq 42), .inl (cy 7, 20, .inr (.inr (.inr (.inr (va_up (fun _ => none) 0 (some (u3 0)))))))), (xc44 cy xh xq), (xc45 cy xh xq), (xc46 cy xh xq), (xh, .inr (11, [.ref (xq 0), .ref (xq 23), .ref (xq 38), .ref (xq 39), .ref (xq 42), .ref (xq 43), .null, .null, .int 0, .int 0, .int 0, .int 0, .int 0, .int (-1), .int 0, .int 0, .int 5, .int 100])), ((u3 0), .inr (0, [.ref (u3 1), .ref (u3 2), .int 0])), ((u3 1), .inl (cy 0, 4, .inl (fun _ => 0))), ((u3 2), .inl (cy 0, 4, .inl (fun _ => 0))), ((xq 39), .inr (1, [.ref (xq 40), .int 0, .int (-1), .int 0, .int 0, .int 0])), ((xq 40), .inr (9, [.ref (xq 41), .int 0]))] := hD
    refine lv_aload_n hx hb dX11_agree_65 rfl (lv_at hl 2 rfl) ?_
    refine va_get (D := D) (ci := 11) (v := .ref (xq 43)) (C := RX11) (T := TX11) (N := 18) hx hb hts iw_X11_agree_X11 hown hKX.1 hP 4 rfl rfl 5 (by decide) (hts (.fieldLink RX11 47 "TrainFerry" "agreed" "LTrainFerry$Schedule;") (by decide +kernel)) (fun _ h9 => h9) rfl dX11_agree_66 ?_
    refine lv_iload_n hx hb dX11_agree_69 rfl (lv_at hl 3 rfl) ?_
    refine lv_iload_n hx hb dX11_agree_70 rfl (lv_at hl 1 rfl) ?_
    refine cl_v (wr := [((xq 42), .inl (cy 7, 20, .inr (.inr (.inr (.inr (va_up (fun _ => none) 0 (some (u3 0)))))))), (xh, .inr (11, [.ref (xq 0), .ref (xq 23), .ref (xq 38), .ref (xq 39), .ref (xq 42), .ref (xq 43), .null, .null, .int 0, .int 0, .int 0, .int 0, .int 0, .int (-1), .int 0, .int 0, .int 5, .int 100])), ((u3 0), .inr (0, [.ref (u3 1), .ref (u3 2), .int 0])), ((u3 1), .inl (cy 0, 4, .inl (fun _ => 0))), ((u3 2), .inl (cy 0, 4, .inl (fun _ => 0))), ((xq 39), .inr (1, [.ref (xq 40), .int 0, .int (-1), .int 0, .int 0, .int 0])), ((xq 40), .inr (9, [.ref (xq 41), .int 0]))]) (va_runV (As := [.int xt, .int 0]) (rest := []) ⟨hx, hb, hml, hown, hts⟩ (c_tell_20 l D cy (xq 43) (xq 44) (xq 45) xt 0 _) (cwV 2 hts gX11_agree_X6_tell rfl rfl rfl (by decide +kernel) ⟨(Nat.le_of_ble_eq_true rfl), (Nat.le_of_ble_eq_true rfl)⟩) (pre_V hKX hP hD (ci := 6) (q0 := 1) rfl rfl [1, 2, 3] rfl (by decide) rfl) rfl rfl hl.1 rfl (lv_room (Nat.le_of_ble_eq_true rfl)) dX11_agree_71 ⟨(Nat.le_of_ble_eq_true rfl), (Nat.le_of_ble_eq_true rfl)⟩) hP hD hS hA [1, 2, 3] [0, 4, 5, 6, 7, 8, 9] rfl rfl (by decide) (by decide) (fun u4 H locs _ hP hD hS => ?_)
    have hP : va_P D vwCl [((xq 42), .inl (cy 7, 20, .inr (.inr (.inr (.inr (va_up (fun _ => none) 0 (some (u3 0)))))))), (xh, .inr (11, [.ref (xq 0), .ref (xq 23), .ref (xq 38), .ref (xq 39), .ref (xq 42), .ref (xq 43), .null, .null, .int 0, .int 0, .int 0, .int 0, .int 0, .int (-1), .int 0, .int 0, .int 5, .int 100])), ((u3 0), .inr (0, [.ref (u3 1), .ref (u3 2), .int 0])), ((u3 1), .inl (cy 0, 4, .inl (fun _ => 0))), ((u3 2), .inl (cy 0, 4, .inl (fun _ => 0))), ((xq 39), .inr (1, [.ref (xq 40), .int 0, .int (-1), .int 0, .int 0, .int 0])), ((xq 40), .inr (9, [.ref (xq 41), .int 0]))] H := hP
    have hD : va_D A [((xq 42), .inl (cy 7, 20, .inr (.inr (.inr (.inr (va_up (fun _ => none) 0 (some (u3 0)))))))), (xh, .inr (11, [.ref (xq 0), .ref (xq 23), .ref (xq 38), .ref (xq 39), .ref (xq 42), .ref (xq 43), .null, .null, .int 0, .int 0, .int 0, .int 0, .int 0, .int (-1), .int 0, .int 0, .int 5, .int 100])), ((u3 0), .inr (0, [.ref (u3 1), .ref (u3 2), .int 0])), ((u3 1), .inl (cy 0, 4, .inl (fun _ => 0))), ((u3 2), .inl (cy 0, 4, .inl (fun _ => 0))), ((xq 39), .inr (1, [.ref (xq 40), .int 0, .int (-1), .int 0, .int 0, .int 0])), ((xq 40), .inr (9, [.ref (xq 41), .int 0]))] := hD
    refine lv_iload_n hx hb dX11_agree_74 rfl (lv_at hl 1 rfl) ?_
    exact en_i hx hb hr hlocks () (by simp [fAgree, wic1, wic2, wic3, wic4, wic5, wic6, c2]) trivial (hP.sub [] rfl) (hD.sub [] (by decide) rfl) hS (Nat.le_of_ble_eq_true rfl) (Nat.le_of_ble_eq_true rfl) dX11_agree_75
theorem iw_X11_place_X11 : ∀ w ∈ wsX110, w ∈ wsX11_place := by decide +kernel
theorem iw_X11_place_X1 : ∀ w ∈ wsX10, w ∈ wsX11_place := by decide +kernel
set_option maxHeartbeats 4000000 in
set_option maxRecDepth 100000 in
theorem c_place (l : Launch) (D : va_G) (cy : Nat → ClassId) (xh : Nat) (xq : Nat → Nat) (sz : Nat) : Met l yX11_place wsX11_place ({ frames := 0, cells := 0, slots := 0, locals := 0 }) (wPre D cy [.ref xh] sz [(xc0 cy xh xq), (xc40 cy xh xq)]) (wQi D (-1) (fun _ : Unit => True) (fun _u : Unit => []) (va_A [(xc0 cy xh xq), (xc40 cy xh xq)] sz)) 0 0 (va_A [(xc0 cy xh xq), (xc40 cy xh xq)] sz) := by
  refine met_go (y := yX11_place) (ws := wsX11_place) (av := [.ref xh]) (cc := cX11_place) (maxL := 1) (ret := (some .int)) (Qc := fun A => wQi D (-1) (fun _ : Unit => True) (fun _u : Unit => []) A) (by decide) rfl (Nat.le_of_ble_eq_true rfl) ?_
  intro p e s m below meth c ls A hx hb hr hml hown hts hlocks hname hKX hP hD hA hS hl
  have hown : s.vm.findClass RX11 = some m.cls := hown
  have hl : lv_has ls 1 [(0, .ref xh)] := hl
  refine lv_aload_n hx hb dX11_place_0 rfl (lv_at hl 0 rfl) ?_
  refine va_get (D := D) (ci := 11) (v := .ref (xq 39)) (C := RX11) (T := TX11) (N := 18) hx hb hts iw_X11_place_X11 hown hKX.1 hP 0 rfl rfl 3 (by decide) (hts (.fieldLink RX11 32 "TrainFerry" "reader" "LTrainFerry$AgreementReader;") (by decide +kernel)) (fun _ h9 => h9) rfl dX11_place_1 ?_
  refine va_get (D := D) (ci := 1) (v := .int (-1)) (C := RX1) (T := TX1) (N := 6) hx hb hts iw_X11_place_X1 hown hKX.1 hP 1 rfl rfl 2 (by decide) (hts (.fieldLink RX11 173 "TrainFerry$AgreementReader" "faultPlace" "I") (by decide +kernel)) (fun _ h9 => h9) rfl dX11_place_4 ?_
  exact en_i hx hb hr hlocks () rfl trivial (hP.sub [] rfl) (hD.sub [] (by decide) rfl) hS (Nat.le_of_ble_eq_true rfl) (Nat.le_of_ble_eq_true rfl) dX11_place_7
theorem iw_X11_on_X11 : ∀ w ∈ wsX110, w ∈ wsX11_on := by decide +kernel
set_option maxHeartbeats 4000000 in
set_option maxRecDepth 100000 in
theorem c_on (l : Launch) (D : va_G) (cy : Nat → ClassId) (xh : Nat) (xq : Nat → Nat) (xt : Int32) (xd : Int32) (sz : Nat) : Met l yX11_on wsX11_on ({ frames := 3, cells := 0, slots := 0, locals := 64 }) (wPre D cy [.ref xh, .int xt, .int xd] sz [(xc0 cy xh xq), (xc1 cy xh xq), (xc2 cy xh xq), (xc3 cy xh xq), (xc4 cy xh xq), (xc6 cy xh xq), (xc8 cy xh xq)]) (wQi D (-1) (fun _ : Unit => True) (fun _u : Unit => []) (va_A [(xc0 cy xh xq), (xc1 cy xh xq), (xc2 cy xh xq), (xc3 cy xh xq), (xc4 cy xh xq), (xc6 cy xh xq), (xc8 cy xh xq)] sz)) 0 0 (va_A [(xc0 cy xh xq), (xc1 cy xh xq), (xc2 cy xh xq), (xc3 cy xh xq), (xc4 cy xh xq), (xc6 cy xh xq), (xc8 cy xh xq)] sz) := by
  refine met_go (y := yX11_on) (ws := wsX11_on) (av := [.ref xh, .int xt, .int xd]) (cc := cX11_on) (maxL := 6) (ret := (some .int)) (Qc := fun A => wQi D (-1) (fun _ : Unit => True) (fun _u : Unit => []) A) (by decide) rfl (Nat.le_of_ble_eq_true rfl) ?_
  intro p e s m below meth c ls A hx hb hr hml hown hts hlocks hname hKX hP hD hA hS hl
  have hown : s.vm.findClass RX11 = some m.cls := hown
  have hl : lv_has ls 6 [(0, .ref xh), (1, .int xt), (2, .int xd)] := hl
  rcases sp3 xt with rfl | rfl | rfl | o1
  · refine lv_iload_n hx hb dX11_on_0 rfl (lv_at hl 2 rfl) ?_
    refine cl_i (wr := [(xc0 cy xh xq), (xc1 cy xh xq), (xc2 cy xh xq), (xc3 cy xh xq), (xc4 cy xh xq), (xc6 cy xh xq), (xc8 cy xh xq)]) (va_runS (As := [.int xd]) (rest := []) ⟨hx, hb, hml, hown, hts⟩ (c_isDeckTrack l D cy xd _) (va_cwS 1 hts gX11_on_X11_isDeckTrack rfl rfl rfl (by decide +kernel) ⟨(Nat.le_of_ble_eq_true rfl), (Nat.le_of_ble_eq_true rfl)⟩) (pre_S hKX hP hD [] rfl (by decide) rfl) rfl rfl hl.1 rfl (lv_room (Nat.le_of_ble_eq_true rfl)) dX11_on_1 ⟨(Nat.le_of_ble_eq_true rfl), (Nat.le_of_ble_eq_true rfl)⟩) hP hD hS hA [] [0, 1, 2, 3, 4, 5, 6] rfl rfl (by decide) (by decide) (fun u2 H locs _ hP hD hS => ?_)
    have hP : va_P D vwCl [(xc0 cy xh xq), (xc1 cy xh xq), (xc2 cy xh xq), (xc3 cy xh xq), (xc4 cy xh xq), (xc6 cy xh xq), (xc8 cy xh xq)] H := hP
    have hD : va_D A [(xc0 cy xh xq), (xc1 cy xh xq), (xc2 cy xh xq), (xc3 cy xh xq), (xc4 cy xh xq), (xc6 cy xh xq), (xc8 cy xh xq)] := hD
    refine lv_if_ne (tgt := 9) hx hb dX11_on_4 (by decide) (fun c3 => ?_) (fun c3 => ?_)
    · refine lv_aload_n hx hb dX11_on_9 rfl (lv_at hl 0 rfl) ?_
      refine va_get (D := D) (ci := 11) (v := .int 0) (C := RX11) (T := TX11) (N := 18) hx hb hts iw_X11_on_X11 hown hKX.1 hP 0 rfl rfl 11 (by decide) (hts (.fieldLink RX11 70 "TrainFerry" "ferryAt" "I") (by decide +kernel)) (fun _ h9 => h9) rfl dX11_on_10 ?_
      refine lv_iconst (v := 2) hx hb dX11_on_13 (by decide) ?_
      refine lv_icmp_ne (tgt := 20) hx hb dX11_on_14 (by decide) (fun _ => ?_) (fun c9 => absurd c9 (by decide))
      refine lv_aload_n hx hb dX11_on_20 rfl (lv_at hl 0 rfl) ?_
      refine lv_aload_n hx hb dX11_on_21 rfl (lv_at hl 0 rfl) ?_
      refine va_get (D := D) (ci := 11) (v := .int 0) (C := RX11) (T := TX11) (N := 18) hx hb hts iw_X11_on_X11 hown hKX.1 hP 0 rfl rfl 11 (by decide) (hts (.fieldLink RX11 70 "TrainFerry" "ferryAt" "I") (by decide +kernel)) (fun _ h9 => h9) rfl dX11_on_22 ?_
      refine lv_iload_n hx hb dX11_on_25 rfl (lv_at hl 1 rfl) ?_
      refine cl_q (wr := [(xc4 cy xh xq), (xc6 cy xh xq), (xc8 cy xh xq)]) (va_runV (As := [.int 0, .int 0]) (rest := []) ⟨hx, hb, hml, hown, hts⟩ (c_yardRow_00 l D cy xh xq _) (cwV 2 hts gX11_on_X11_yardRow rfl rfl rfl (by decide +kernel) ⟨(Nat.le_of_ble_eq_true rfl), (Nat.le_of_ble_eq_true rfl)⟩) (pre_V hKX hP hD (ci := 11) (q0 := 0) rfl rfl [0, 1, 2, 3] rfl (by decide) rfl) rfl rfl hl.1 rfl (lv_room (Nat.le_of_ble_eq_true rfl)) dX11_on_26 ⟨(Nat.le_of_ble_eq_true rfl), (Nat.le_of_ble_eq_true rfl)⟩) hP hD hS hA [0, 1, 2, 3] [4, 5, 6] rfl rfl (by decide) (by decide) (fun u4 H locs _ hP hD hS => ?_)
      have hP : va_P D vwCl [(xc4 cy xh xq), (xc6 cy xh xq), (xc8 cy xh xq), (xc0 cy xh xq), (xc1 cy xh xq), (xc2 cy xh xq), (xc3 cy xh xq)] H := hP
      have hD : va_D A [(xc4 cy xh xq), (xc6 cy xh xq), (xc8 cy xh xq), (xc0 cy xh xq), (xc1 cy xh xq), (xc2 cy xh xq), (xc3 cy xh xq)] := hD
      refine lv_csv (.ref (xq 3)) rfl ?_
      refine lv_astore_n (lv' := [(3, .ref (xq 3)), (0, .ref xh), (1, .int 0), (2, .int xd)]) hx hb dX11_on_29 rfl hl (by decide) rfl (fun ls hl => ?_)
      refine lv_aload_n hx hb dX11_on_30 rfl (lv_at hl 0 rfl) ?_
      refine lv_ifnonnull (tgt := 38) hx hb dX11_on_31 (by decide) ?_
      refine lv_aload_n hx hb dX11_on_38 rfl (lv_at hl 0 rfl) ?_
      refine lv_iconst (v := 0) hx hb dX11_on_39 (by decide) ?_
      refine cl_q (wr := [(xc6 cy xh xq), (xc8 cy xh xq), (xc0 cy xh xq), (xc1 cy xh xq), (xc2 cy xh xq), (xc3 cy xh xq)]) (va_runV (As := [.int 0]) (rest := []) ⟨hx, hb, hml, hown, hts⟩ (c_wagonAt l D cy (xq 3) (xq 4) 0 _) (cwV 1 hts gX11_on_X5_wagonAt rfl rfl rfl (by decide +kernel) ⟨(Nat.le_of_ble_eq_true rfl), (Nat.le_of_ble_eq_true rfl)⟩) (pre_V hKX hP hD (ci := 5) (q0 := 0) rfl rfl [0] rfl (by decide) rfl) rfl rfl hl.1 rfl (lv_room (Nat.le_of_ble_eq_true rfl)) dX11_on_40 ⟨(Nat.le_of_ble_eq_true rfl), (Nat.le_of_ble_eq_true rfl)⟩) hP hD hS hA [0] [1, 2, 3, 4, 5, 6] rfl rfl (by decide) (by decide) (fun u5 H locs _ hP hD hS => ?_)
      have hP : va_P D vwCl [(xc6 cy xh xq), (xc8 cy xh xq), (xc0 cy xh xq), (xc1 cy xh xq), (xc2 cy xh xq), (xc3 cy xh xq), ((xq 3), .inr (5, [.ref (xq 4), .int 0, .int 0]))] H := hP
      have hD : va_D A [(xc6 cy xh xq), (xc8 cy xh xq), (xc0 cy xh xq), (xc1 cy xh xq), (xc2 cy xh xq), (xc3 cy xh xq), ((xq 3), .inr (5, [.ref (xq 4), .int 0, .int 0]))] := hD
      refine lv_csv (.null) rfl ?_
      refine lv_astoreN (lv' := [(4, .null), (3, .ref (xq 3)), (0, .ref xh), (1, .int 0), (2, .int xd)]) hx hb dX11_on_43 hl (by decide) rfl (fun ls hl => ?_)
      refine lv_aloadN hx hb dX11_on_45 (lv_at hl 0 rfl) ?_
      refine lv_ifnonnullN hx hb dX11_on_47 ?_
      refine lv_iconst (v := (-1)) hx hb dX11_on_50 (by decide) ?_
      exact en_i hx hb hr hlocks () rfl trivial (hP.sub [] rfl) (hD.sub [] (by decide) rfl) hS (Nat.le_of_ble_eq_true rfl) (Nat.le_of_ble_eq_true rfl) dX11_on_51
    · refine lv_iconst (v := (-1)) hx hb dX11_on_7 (by decide) ?_
      exact en_i hx hb hr hlocks () rfl trivial (hP.sub [] rfl) (hD.sub [] (by decide) rfl) hS (Nat.le_of_ble_eq_true rfl) (Nat.le_of_ble_eq_true rfl) dX11_on_8
  · refine lv_iload_n hx hb dX11_on_0 rfl (lv_at hl 2 rfl) ?_
    refine cl_i (wr := [(xc0 cy xh xq), (xc1 cy xh xq), (xc2 cy xh xq), (xc3 cy xh xq), (xc4 cy xh xq), (xc6 cy xh xq), (xc8 cy xh xq)]) (va_runS (As := [.int xd]) (rest := []) ⟨hx, hb, hml, hown, hts⟩ (c_isDeckTrack l D cy xd _) (va_cwS 1 hts gX11_on_X11_isDeckTrack rfl rfl rfl (by decide +kernel) ⟨(Nat.le_of_ble_eq_true rfl), (Nat.le_of_ble_eq_true rfl)⟩) (pre_S hKX hP hD [] rfl (by decide) rfl) rfl rfl hl.1 rfl (lv_room (Nat.le_of_ble_eq_true rfl)) dX11_on_1 ⟨(Nat.le_of_ble_eq_true rfl), (Nat.le_of_ble_eq_true rfl)⟩) hP hD hS hA [] [0, 1, 2, 3, 4, 5, 6] rfl rfl (by decide) (by decide) (fun u6 H locs _ hP hD hS => ?_)
    have hP : va_P D vwCl [(xc0 cy xh xq), (xc1 cy xh xq), (xc2 cy xh xq), (xc3 cy xh xq), (xc4 cy xh xq), (xc6 cy xh xq), (xc8 cy xh xq)] H := hP
    have hD : va_D A [(xc0 cy xh xq), (xc1 cy xh xq), (xc2 cy xh xq), (xc3 cy xh xq), (xc4 cy xh xq), (xc6 cy xh xq), (xc8 cy xh xq)] := hD
    refine lv_if_ne (tgt := 9) hx hb dX11_on_4 (by decide) (fun c7 => ?_) (fun c7 => ?_)
    · refine lv_aload_n hx hb dX11_on_9 rfl (lv_at hl 0 rfl) ?_
      refine va_get (D := D) (ci := 11) (v := .int 0) (C := RX11) (T := TX11) (N := 18) hx hb hts iw_X11_on_X11 hown hKX.1 hP 0 rfl rfl 11 (by decide) (hts (.fieldLink RX11 70 "TrainFerry" "ferryAt" "I") (by decide +kernel)) (fun _ h9 => h9) rfl dX11_on_10 ?_
      refine lv_iconst (v := 2) hx hb dX11_on_13 (by decide) ?_
      refine lv_icmp_ne (tgt := 20) hx hb dX11_on_14 (by decide) (fun _ => ?_) (fun c9 => absurd c9 (by decide))
      refine lv_aload_n hx hb dX11_on_20 rfl (lv_at hl 0 rfl) ?_
      refine lv_aload_n hx hb dX11_on_21 rfl (lv_at hl 0 rfl) ?_
      refine va_get (D := D) (ci := 11) (v := .int 0) (C := RX11) (T := TX11) (N := 18) hx hb hts iw_X11_on_X11 hown hKX.1 hP 0 rfl rfl 11 (by decide) (hts (.fieldLink RX11 70 "TrainFerry" "ferryAt" "I") (by decide +kernel)) (fun _ h9 => h9) rfl dX11_on_22 ?_
      refine lv_iload_n hx hb dX11_on_25 rfl (lv_at hl 1 rfl) ?_
      refine cl_q (wr := [(xc4 cy xh xq), (xc6 cy xh xq), (xc8 cy xh xq)]) (va_runV (As := [.int 0, .int 1]) (rest := []) ⟨hx, hb, hml, hown, hts⟩ (c_yardRow_01 l D cy xh xq _) (cwV 2 hts gX11_on_X11_yardRow rfl rfl rfl (by decide +kernel) ⟨(Nat.le_of_ble_eq_true rfl), (Nat.le_of_ble_eq_true rfl)⟩) (pre_V hKX hP hD (ci := 11) (q0 := 0) rfl rfl [0, 1, 2, 3] rfl (by decide) rfl) rfl rfl hl.1 rfl (lv_room (Nat.le_of_ble_eq_true rfl)) dX11_on_26 ⟨(Nat.le_of_ble_eq_true rfl), (Nat.le_of_ble_eq_true rfl)⟩) hP hD hS hA [0, 1, 2, 3] [4, 5, 6] rfl rfl (by decide) (by decide) (fun u8 H locs _ hP hD hS => ?_)
      have hP : va_P D vwCl [(xc4 cy xh xq), (xc6 cy xh xq), (xc8 cy xh xq), (xc0 cy xh xq), (xc1 cy xh xq), (xc2 cy xh xq), (xc3 cy xh xq)] H := hP
      have hD : va_D A [(xc4 cy xh xq), (xc6 cy xh xq), (xc8 cy xh xq), (xc0 cy xh xq), (xc1 cy xh xq), (xc2 cy xh xq), (xc3 cy xh xq)] := hD
      refine lv_csv (.ref (xq 5)) rfl ?_
      refine lv_astore_n (lv' := [(3, .ref (xq 5)), (0, .ref xh), (1, .int 1), (2, .int xd)]) hx hb dX11_on_29 rfl hl (by decide) rfl (fun ls hl => ?_)
      refine lv_aload_n hx hb dX11_on_30 rfl (lv_at hl 0 rfl) ?_
      refine lv_ifnonnull (tgt := 38) hx hb dX11_on_31 (by decide) ?_
      refine lv_aload_n hx hb dX11_on_38 rfl (lv_at hl 0 rfl) ?_
      refine lv_iconst (v := 0) hx hb dX11_on_39 (by decide) ?_
      refine cl_q (wr := [(xc4 cy xh xq), (xc8 cy xh xq), (xc0 cy xh xq), (xc1 cy xh xq), (xc2 cy xh xq), (xc3 cy xh xq)]) (va_runV (As := [.int 0]) (rest := []) ⟨hx, hb, hml, hown, hts⟩ (c_wagonAt l D cy (xq 5) (xq 6) 0 _) (cwV 1 hts gX11_on_X5_wagonAt rfl rfl rfl (by decide +kernel) ⟨(Nat.le_of_ble_eq_true rfl), (Nat.le_of_ble_eq_true rfl)⟩) (pre_V hKX hP hD (ci := 5) (q0 := 1) rfl rfl [1] rfl (by decide) rfl) rfl rfl hl.1 rfl (lv_room (Nat.le_of_ble_eq_true rfl)) dX11_on_40 ⟨(Nat.le_of_ble_eq_true rfl), (Nat.le_of_ble_eq_true rfl)⟩) hP hD hS hA [1] [0, 2, 3, 4, 5, 6] rfl rfl (by decide) (by decide) (fun u9 H locs _ hP hD hS => ?_)
      have hP : va_P D vwCl [(xc4 cy xh xq), (xc8 cy xh xq), (xc0 cy xh xq), (xc1 cy xh xq), (xc2 cy xh xq), (xc3 cy xh xq), ((xq 5), .inr (5, [.ref (xq 6), .int 0, .int 0]))] H := hP
      have hD : va_D A [(xc4 cy xh xq), (xc8 cy xh xq), (xc0 cy xh xq), (xc1 cy xh xq), (xc2 cy xh xq), (xc3 cy xh xq), ((xq 5), .inr (5, [.ref (xq 6), .int 0, .int 0]))] := hD
      refine lv_csv (.null) rfl ?_
      refine lv_astoreN (lv' := [(4, .null), (3, .ref (xq 5)), (0, .ref xh), (1, .int 1), (2, .int xd)]) hx hb dX11_on_43 hl (by decide) rfl (fun ls hl => ?_)
      refine lv_aloadN hx hb dX11_on_45 (lv_at hl 0 rfl) ?_
      refine lv_ifnonnullN hx hb dX11_on_47 ?_
      refine lv_iconst (v := (-1)) hx hb dX11_on_50 (by decide) ?_
      exact en_i hx hb hr hlocks () rfl trivial (hP.sub [] rfl) (hD.sub [] (by decide) rfl) hS (Nat.le_of_ble_eq_true rfl) (Nat.le_of_ble_eq_true rfl) dX11_on_51
    · refine lv_iconst (v := (-1)) hx hb dX11_on_7 (by decide) ?_
      exact en_i hx hb hr hlocks () rfl trivial (hP.sub [] rfl) (hD.sub [] (by decide) rfl) hS (Nat.le_of_ble_eq_true rfl) (Nat.le_of_ble_eq_true rfl) dX11_on_8
  · refine lv_iload_n hx hb dX11_on_0 rfl (lv_at hl 2 rfl) ?_
    refine cl_i (wr := [(xc0 cy xh xq), (xc1 cy xh xq), (xc2 cy xh xq), (xc3 cy xh xq), (xc4 cy xh xq), (xc6 cy xh xq), (xc8 cy xh xq)]) (va_runS (As := [.int xd]) (rest := []) ⟨hx, hb, hml, hown, hts⟩ (c_isDeckTrack l D cy xd _) (va_cwS 1 hts gX11_on_X11_isDeckTrack rfl rfl rfl (by decide +kernel) ⟨(Nat.le_of_ble_eq_true rfl), (Nat.le_of_ble_eq_true rfl)⟩) (pre_S hKX hP hD [] rfl (by decide) rfl) rfl rfl hl.1 rfl (lv_room (Nat.le_of_ble_eq_true rfl)) dX11_on_1 ⟨(Nat.le_of_ble_eq_true rfl), (Nat.le_of_ble_eq_true rfl)⟩) hP hD hS hA [] [0, 1, 2, 3, 4, 5, 6] rfl rfl (by decide) (by decide) (fun u10 H locs _ hP hD hS => ?_)
    have hP : va_P D vwCl [(xc0 cy xh xq), (xc1 cy xh xq), (xc2 cy xh xq), (xc3 cy xh xq), (xc4 cy xh xq), (xc6 cy xh xq), (xc8 cy xh xq)] H := hP
    have hD : va_D A [(xc0 cy xh xq), (xc1 cy xh xq), (xc2 cy xh xq), (xc3 cy xh xq), (xc4 cy xh xq), (xc6 cy xh xq), (xc8 cy xh xq)] := hD
    refine lv_if_ne (tgt := 9) hx hb dX11_on_4 (by decide) (fun c11 => ?_) (fun c11 => ?_)
    · refine lv_aload_n hx hb dX11_on_9 rfl (lv_at hl 0 rfl) ?_
      refine va_get (D := D) (ci := 11) (v := .int 0) (C := RX11) (T := TX11) (N := 18) hx hb hts iw_X11_on_X11 hown hKX.1 hP 0 rfl rfl 11 (by decide) (hts (.fieldLink RX11 70 "TrainFerry" "ferryAt" "I") (by decide +kernel)) (fun _ h9 => h9) rfl dX11_on_10 ?_
      refine lv_iconst (v := 2) hx hb dX11_on_13 (by decide) ?_
      refine lv_icmp_ne (tgt := 20) hx hb dX11_on_14 (by decide) (fun _ => ?_) (fun c9 => absurd c9 (by decide))
      refine lv_aload_n hx hb dX11_on_20 rfl (lv_at hl 0 rfl) ?_
      refine lv_aload_n hx hb dX11_on_21 rfl (lv_at hl 0 rfl) ?_
      refine va_get (D := D) (ci := 11) (v := .int 0) (C := RX11) (T := TX11) (N := 18) hx hb hts iw_X11_on_X11 hown hKX.1 hP 0 rfl rfl 11 (by decide) (hts (.fieldLink RX11 70 "TrainFerry" "ferryAt" "I") (by decide +kernel)) (fun _ h9 => h9) rfl dX11_on_22 ?_
      refine lv_iload_n hx hb dX11_on_25 rfl (lv_at hl 1 rfl) ?_
      refine cl_q (wr := [(xc4 cy xh xq), (xc6 cy xh xq), (xc8 cy xh xq)]) (va_runV (As := [.int 0, .int 2]) (rest := []) ⟨hx, hb, hml, hown, hts⟩ (c_yardRow_02 l D cy xh xq _) (cwV 2 hts gX11_on_X11_yardRow rfl rfl rfl (by decide +kernel) ⟨(Nat.le_of_ble_eq_true rfl), (Nat.le_of_ble_eq_true rfl)⟩) (pre_V hKX hP hD (ci := 11) (q0 := 0) rfl rfl [0, 1, 2, 3] rfl (by decide) rfl) rfl rfl hl.1 rfl (lv_room (Nat.le_of_ble_eq_true rfl)) dX11_on_26 ⟨(Nat.le_of_ble_eq_true rfl), (Nat.le_of_ble_eq_true rfl)⟩) hP hD hS hA [0, 1, 2, 3] [4, 5, 6] rfl rfl (by decide) (by decide) (fun u12 H locs _ hP hD hS => ?_)
      have hP : va_P D vwCl [(xc4 cy xh xq), (xc6 cy xh xq), (xc8 cy xh xq), (xc0 cy xh xq), (xc1 cy xh xq), (xc2 cy xh xq), (xc3 cy xh xq)] H := hP
      have hD : va_D A [(xc4 cy xh xq), (xc6 cy xh xq), (xc8 cy xh xq), (xc0 cy xh xq), (xc1 cy xh xq), (xc2 cy xh xq), (xc3 cy xh xq)] := hD
      refine lv_csv (.ref (xq 7)) rfl ?_
      refine lv_astore_n (lv' := [(3, .ref (xq 7)), (0, .ref xh), (1, .int 2), (2, .int xd)]) hx hb dX11_on_29 rfl hl (by decide) rfl (fun ls hl => ?_)
      refine lv_aload_n hx hb dX11_on_30 rfl (lv_at hl 0 rfl) ?_
      refine lv_ifnonnull (tgt := 38) hx hb dX11_on_31 (by decide) ?_
      refine lv_aload_n hx hb dX11_on_38 rfl (lv_at hl 0 rfl) ?_
      refine lv_iconst (v := 0) hx hb dX11_on_39 (by decide) ?_
      refine cl_q (wr := [(xc4 cy xh xq), (xc6 cy xh xq), (xc0 cy xh xq), (xc1 cy xh xq), (xc2 cy xh xq), (xc3 cy xh xq)]) (va_runV (As := [.int 0]) (rest := []) ⟨hx, hb, hml, hown, hts⟩ (c_wagonAt l D cy (xq 7) (xq 8) 0 _) (cwV 1 hts gX11_on_X5_wagonAt rfl rfl rfl (by decide +kernel) ⟨(Nat.le_of_ble_eq_true rfl), (Nat.le_of_ble_eq_true rfl)⟩) (pre_V hKX hP hD (ci := 5) (q0 := 2) rfl rfl [2] rfl (by decide) rfl) rfl rfl hl.1 rfl (lv_room (Nat.le_of_ble_eq_true rfl)) dX11_on_40 ⟨(Nat.le_of_ble_eq_true rfl), (Nat.le_of_ble_eq_true rfl)⟩) hP hD hS hA [2] [0, 1, 3, 4, 5, 6] rfl rfl (by decide) (by decide) (fun u13 H locs _ hP hD hS => ?_)
      have hP : va_P D vwCl [(xc4 cy xh xq), (xc6 cy xh xq), (xc0 cy xh xq), (xc1 cy xh xq), (xc2 cy xh xq), (xc3 cy xh xq), ((xq 7), .inr (5, [.ref (xq 8), .int 0, .int 0]))] H := hP
      have hD : va_D A [(xc4 cy xh xq), (xc6 cy xh xq), (xc0 cy xh xq), (xc1 cy xh xq), (xc2 cy xh xq), (xc3 cy xh xq), ((xq 7), .inr (5, [.ref (xq 8), .int 0, .int 0]))] := hD
      refine lv_csv (.null) rfl ?_
      refine lv_astoreN (lv' := [(4, .null), (3, .ref (xq 7)), (0, .ref xh), (1, .int 2), (2, .int xd)]) hx hb dX11_on_43 hl (by decide) rfl (fun ls hl => ?_)
      refine lv_aloadN hx hb dX11_on_45 (lv_at hl 0 rfl) ?_
      refine lv_ifnonnullN hx hb dX11_on_47 ?_
      refine lv_iconst (v := (-1)) hx hb dX11_on_50 (by decide) ?_
      exact en_i hx hb hr hlocks () rfl trivial (hP.sub [] rfl) (hD.sub [] (by decide) rfl) hS (Nat.le_of_ble_eq_true rfl) (Nat.le_of_ble_eq_true rfl) dX11_on_51
    · refine lv_iconst (v := (-1)) hx hb dX11_on_7 (by decide) ?_
      exact en_i hx hb hr hlocks () rfl trivial (hP.sub [] rfl) (hD.sub [] (by decide) rfl) hS (Nat.le_of_ble_eq_true rfl) (Nat.le_of_ble_eq_true rfl) dX11_on_8
  · refine lv_iload_n hx hb dX11_on_0 rfl (lv_at hl 2 rfl) ?_
    refine cl_i (wr := [(xc0 cy xh xq), (xc1 cy xh xq), (xc2 cy xh xq), (xc3 cy xh xq), (xc4 cy xh xq), (xc6 cy xh xq), (xc8 cy xh xq)]) (va_runS (As := [.int xd]) (rest := []) ⟨hx, hb, hml, hown, hts⟩ (c_isDeckTrack l D cy xd _) (va_cwS 1 hts gX11_on_X11_isDeckTrack rfl rfl rfl (by decide +kernel) ⟨(Nat.le_of_ble_eq_true rfl), (Nat.le_of_ble_eq_true rfl)⟩) (pre_S hKX hP hD [] rfl (by decide) rfl) rfl rfl hl.1 rfl (lv_room (Nat.le_of_ble_eq_true rfl)) dX11_on_1 ⟨(Nat.le_of_ble_eq_true rfl), (Nat.le_of_ble_eq_true rfl)⟩) hP hD hS hA [] [0, 1, 2, 3, 4, 5, 6] rfl rfl (by decide) (by decide) (fun u14 H locs _ hP hD hS => ?_)
    have hP : va_P D vwCl [(xc0 cy xh xq), (xc1 cy xh xq), (xc2 cy xh xq), (xc3 cy xh xq), (xc4 cy xh xq), (xc6 cy xh xq), (xc8 cy xh xq)] H := hP
    have hD : va_D A [(xc0 cy xh xq), (xc1 cy xh xq), (xc2 cy xh xq), (xc3 cy xh xq), (xc4 cy xh xq), (xc6 cy xh xq), (xc8 cy xh xq)] := hD
    refine lv_if_ne (tgt := 9) hx hb dX11_on_4 (by decide) (fun c15 => ?_) (fun c15 => ?_)
    · refine lv_aload_n hx hb dX11_on_9 rfl (lv_at hl 0 rfl) ?_
      refine va_get (D := D) (ci := 11) (v := .int 0) (C := RX11) (T := TX11) (N := 18) hx hb hts iw_X11_on_X11 hown hKX.1 hP 0 rfl rfl 11 (by decide) (hts (.fieldLink RX11 70 "TrainFerry" "ferryAt" "I") (by decide +kernel)) (fun _ h9 => h9) rfl dX11_on_10 ?_
      refine lv_iconst (v := 2) hx hb dX11_on_13 (by decide) ?_
      refine lv_icmp_ne (tgt := 20) hx hb dX11_on_14 (by decide) (fun _ => ?_) (fun c9 => absurd c9 (by decide))
      refine lv_aload_n hx hb dX11_on_20 rfl (lv_at hl 0 rfl) ?_
      refine lv_aload_n hx hb dX11_on_21 rfl (lv_at hl 0 rfl) ?_
      refine va_get (D := D) (ci := 11) (v := .int 0) (C := RX11) (T := TX11) (N := 18) hx hb hts iw_X11_on_X11 hown hKX.1 hP 0 rfl rfl 11 (by decide) (hts (.fieldLink RX11 70 "TrainFerry" "ferryAt" "I") (by decide +kernel)) (fun _ h9 => h9) rfl dX11_on_22 ?_
      refine lv_iload_n hx hb dX11_on_25 rfl (lv_at hl 1 rfl) ?_
      refine cl_q (wr := [(xc0 cy xh xq), (xc1 cy xh xq), (xc2 cy xh xq), (xc3 cy xh xq), (xc4 cy xh xq), (xc6 cy xh xq), (xc8 cy xh xq)]) (va_runV (As := [.int 0, .int xt]) (rest := []) ⟨hx, hb, hml, hown, hts⟩ (c_yardRow_t l D cy xh _ 0 xt o1 _) (cwV 2 hts gX11_on_X11_yardRow rfl rfl rfl (by decide +kernel) ⟨(Nat.le_of_ble_eq_true rfl), (Nat.le_of_ble_eq_true rfl)⟩) (pre_V hKX hP hD (ci := 11) (q0 := 0) rfl rfl [] rfl (by decide) rfl) rfl rfl hl.1 rfl (lv_room (Nat.le_of_ble_eq_true rfl)) dX11_on_26 ⟨(Nat.le_of_ble_eq_true rfl), (Nat.le_of_ble_eq_true rfl)⟩) hP hD hS hA [] [0, 1, 2, 3, 4, 5, 6] rfl rfl (by decide) (by decide) (fun u16 H locs _ hP hD hS => ?_)
      have hP : va_P D vwCl [(xc0 cy xh xq), (xc1 cy xh xq), (xc2 cy xh xq), (xc3 cy xh xq), (xc4 cy xh xq), (xc6 cy xh xq), (xc8 cy xh xq)] H := hP
      have hD : va_D A [(xc0 cy xh xq), (xc1 cy xh xq), (xc2 cy xh xq), (xc3 cy xh xq), (xc4 cy xh xq), (xc6 cy xh xq), (xc8 cy xh xq)] := hD
      refine lv_csv (.null) rfl ?_
      refine lv_astore_nN (lv' := [(3, .null), (0, .ref xh), (1, .int xt), (2, .int xd)]) hx hb dX11_on_29 rfl hl (by decide) rfl (fun ls hl => ?_)
      refine lv_aload_nN hx hb dX11_on_30 rfl (lv_at hl 0 rfl) ?_
      refine lv_ifnonnullN hx hb dX11_on_31 ?_
      refine lv_null hx hb dX11_on_34 ?_
      refine lv_goto (tgt := 43) hx hb dX11_on_35 (by decide) ?_
      refine lv_astoreN (lv' := [(4, .null), (3, .null), (0, .ref xh), (1, .int xt), (2, .int xd)]) hx hb dX11_on_43 hl (by decide) rfl (fun ls hl => ?_)
      refine lv_aloadN hx hb dX11_on_45 (lv_at hl 0 rfl) ?_
      refine lv_ifnonnullN hx hb dX11_on_47 ?_
      refine lv_iconst (v := (-1)) hx hb dX11_on_50 (by decide) ?_
      exact en_i hx hb hr hlocks () rfl trivial (hP.sub [] rfl) (hD.sub [] (by decide) rfl) hS (Nat.le_of_ble_eq_true rfl) (Nat.le_of_ble_eq_true rfl) dX11_on_51
    · refine lv_iconst (v := (-1)) hx hb dX11_on_7 (by decide) ?_
      exact en_i hx hb hr hlocks () rfl trivial (hP.sub [] rfl) (hD.sub [] (by decide) rfl) hS (Nat.le_of_ble_eq_true rfl) (Nat.le_of_ble_eq_true rfl) dX11_on_8
theorem iw_X2_lastOf_X2 : ∀ w ∈ wsX20, w ∈ wsX2_lastOf := by decide +kernel
theorem iw_X2_lastOf_X5 : ∀ w ∈ wsX50, w ∈ wsX2_lastOf := by decide +kernel
set_option maxHeartbeats 4000000 in
set_option maxRecDepth 100000 in
theorem c_lastOf_0 (l : Launch) (D : va_G) (cy : Nat → ClassId) (xq : Nat → Nat) (sz : Nat) : Met l yX2_lastOf wsX2_lastOf ({ frames := 2, cells := 0, slots := 0, locals := 43 }) (wPre D cy [.ref (xq 23), .int 0] sz [(xc24 cy xh xq), (xc25 cy xh xq), (xc26 cy xh xq)]) (wQq D (fun _u : Unit => none) (fun _ : Unit => True) (fun _u : Unit => [(xc24 cy xh xq), (xc25 cy xh xq), (xc26 cy xh xq)]) (va_A [(xc24 cy xh xq), (xc25 cy xh xq), (xc26 cy xh xq)] sz)) 0 0 (va_A [(xc24 cy xh xq), (xc25 cy xh xq), (xc26 cy xh xq)] sz) := by
  refine met_go (y := yX2_lastOf) (ws := wsX2_lastOf) (av := [.ref (xq 23), .int 0]) (cc := cX2_lastOf) (maxL := 2) (ret := (some (.object "TrainFerry$Wagon"))) (Qc := fun A => wQq D (fun _u : Unit => none) (fun _ : Unit => True) (fun _u : Unit => [(xc24 cy xh xq), (xc25 cy xh xq), (xc26 cy xh xq)]) A) (by decide) rfl (Nat.le_of_ble_eq_true rfl) ?_
  intro p e s m below meth c ls A hx hb hr hml hown hts hlocks hname hKX hP hD hA hS hl
  have hown : s.vm.findClass RX2 = some m.cls := hown
  have hl : lv_has ls 2 [(0, .ref (xq 23)), (1, .int 0)] := hl
  refine lv_iload_n hx hb dX2_lastOf_0 rfl (lv_at hl 1 rfl) ?_
  refine cl_i (wr := [(xc24 cy xh xq), (xc25 cy xh xq), (xc26 cy xh xq)]) (va_runSN (As := [.int 0]) (rest := []) ⟨hx, hb, hml, hown, hts⟩ (c_isDeckTrack l D cy 0 _) ⟨va_cnB 1 hts gX2_lastOf_X11_isDeckTrack_n34 rfl rfl rfl (hKX.2.1 (.methodLinkNest RX2 34 yX11_isDeckTrack RX11) (by decide +kernel)) (hts (.initialized RX11) (by decide +kernel)) (by decide +kernel) ⟨(Nat.le_of_ble_eq_true rfl), (Nat.le_of_ble_eq_true rfl)⟩, hts (.static yX11_isDeckTrack) (by decide +kernel), trivial⟩ (pre_S hKX hP hD [] rfl (by decide) rfl) rfl rfl hl.1 rfl (lv_room (Nat.le_of_ble_eq_true rfl)) dX2_lastOf_1 ⟨(Nat.le_of_ble_eq_true rfl), (Nat.le_of_ble_eq_true rfl)⟩) hP hD hS hA [] [0, 1, 2] rfl rfl (by decide) (by decide) (fun u1 H locs _ hP hD hS => ?_)
  have hP : va_P D vwCl [(xc24 cy xh xq), (xc25 cy xh xq), (xc26 cy xh xq)] H := hP
  have hD : va_D A [(xc24 cy xh xq), (xc25 cy xh xq), (xc26 cy xh xq)] := hD
  refine lv_cst 1 (by decide) ?_
  refine lv_if_eq (tgt := 30) hx hb dX2_lastOf_4 (by decide) (fun c9 => absurd c9 (by decide)) (fun _ => ?_)
  refine lv_aload_n hx hb dX2_lastOf_7 rfl (lv_at hl 0 rfl) ?_
  refine va_get (D := D) (ci := 2) (v := .ref (xq 24)) (C := RX2) (T := TX2) (N := 2) hx hb hts iw_X2_lastOf_X2 hown hKX.1 hP 0 rfl rfl 0 (by decide) (hts (.fieldLink RX2 14 "TrainFerry$Deck" "rows" "[LTrainFerry$Row;") (by decide +kernel)) (fun _ h9 => h9) rfl dX2_lastOf_8 ?_
  refine lv_iload_n hx hb dX2_lastOf_11 rfl (lv_at hl 1 rfl) ?_
  refine va_aldq hx hb hKX.1 hP 1 4 rfl rfl (vind (by decide)) dX2_lastOf_12 ?_
  refine lv_csv (.ref (xq 25)) rfl ?_
  refine lv_aload_n hx hb dX2_lastOf_13 rfl (lv_at hl 0 rfl) ?_
  refine va_get (D := D) (ci := 2) (v := .ref (xq 24)) (C := RX2) (T := TX2) (N := 2) hx hb hts iw_X2_lastOf_X2 hown hKX.1 hP 0 rfl rfl 0 (by decide) (hts (.fieldLink RX2 14 "TrainFerry$Deck" "rows" "[LTrainFerry$Row;") (by decide +kernel)) (fun _ h9 => h9) rfl dX2_lastOf_14 ?_
  refine lv_iload_n hx hb dX2_lastOf_17 rfl (lv_at hl 1 rfl) ?_
  refine va_aldq hx hb hKX.1 hP 1 4 rfl rfl (vind (by decide)) dX2_lastOf_18 ?_
  refine lv_csv (.ref (xq 25)) rfl ?_
  refine va_get (D := D) (ci := 5) (v := .int 0) (C := RX5) (T := TX5) (N := 3) hx hb hts iw_X2_lastOf_X5 hown hKX.1 hP 2 rfl rfl 1 (by decide) (hts (.fieldLink RX2 38 "TrainFerry$Row" "size" "I") (by decide +kernel)) (fun _ h9 => h9) rfl dX2_lastOf_19 ?_
  refine lv_iconst (v := 1) hx hb dX2_lastOf_22 (by decide) ?_
  refine lv_isub hx hb dX2_lastOf_23 ?_
  refine lv_cst (-1) (by decide) ?_
  refine cl_q (wr := [(xc24 cy xh xq), (xc25 cy xh xq)]) (va_runV (As := [.int (-1)]) (rest := []) ⟨hx, hb, hml, hown, hts⟩ (c_wagonAt l D cy (xq 25) (xq 26) (-1) _) (cwV 1 hts gX2_lastOf_X5_wagonAt rfl rfl rfl (by decide +kernel) ⟨(Nat.le_of_ble_eq_true rfl), (Nat.le_of_ble_eq_true rfl)⟩) (pre_V hKX hP hD (ci := 5) (q0 := 2) rfl rfl [2] rfl (by decide) rfl) rfl rfl hl.1 rfl (lv_room (Nat.le_of_ble_eq_true rfl)) dX2_lastOf_24 ⟨(Nat.le_of_ble_eq_true rfl), (Nat.le_of_ble_eq_true rfl)⟩) hP hD hS hA [2] [0, 1] rfl rfl (by decide) (by decide) (fun u2 H locs _ hP hD hS => ?_)
  have hP : va_P D vwCl [(xc24 cy xh xq), (xc25 cy xh xq), ((xq 25), .inr (5, [.ref (xq 26), .int 0, .int 0]))] H := hP
  have hD : va_D A [(xc24 cy xh xq), (xc25 cy xh xq), ((xq 25), .inr (5, [.ref (xq 26), .int 0, .int 0]))] := hD
  refine lv_csv (.null) rfl ?_
  refine lv_goto (tgt := 31) hx hb dX2_lastOf_27 (by decide) ?_
  exact en_q (v' := none) hx hb hr (Or.inl ⟨_, rfl⟩) hlocks rfl () rfl trivial (hP.sub [0, 1, 2] rfl) (hD.sub [0, 1, 2] (by decide) rfl) hS (Nat.le_of_ble_eq_true rfl) (Nat.le_of_ble_eq_true rfl) dX2_lastOf_31
set_option maxHeartbeats 4000000 in
set_option maxRecDepth 100000 in
theorem c_lastOf_1 (l : Launch) (D : va_G) (cy : Nat → ClassId) (xq : Nat → Nat) (sz : Nat) : Met l yX2_lastOf wsX2_lastOf ({ frames := 2, cells := 0, slots := 0, locals := 43 }) (wPre D cy [.ref (xq 23), .int 1] sz [(xc24 cy xh xq), (xc25 cy xh xq), (xc28 cy xh xq)]) (wQq D (fun _u : Unit => none) (fun _ : Unit => True) (fun _u : Unit => [(xc24 cy xh xq), (xc25 cy xh xq), (xc28 cy xh xq)]) (va_A [(xc24 cy xh xq), (xc25 cy xh xq), (xc28 cy xh xq)] sz)) 0 0 (va_A [(xc24 cy xh xq), (xc25 cy xh xq), (xc28 cy xh xq)] sz) := by
  refine met_go (y := yX2_lastOf) (ws := wsX2_lastOf) (av := [.ref (xq 23), .int 1]) (cc := cX2_lastOf) (maxL := 2) (ret := (some (.object "TrainFerry$Wagon"))) (Qc := fun A => wQq D (fun _u : Unit => none) (fun _ : Unit => True) (fun _u : Unit => [(xc24 cy xh xq), (xc25 cy xh xq), (xc28 cy xh xq)]) A) (by decide) rfl (Nat.le_of_ble_eq_true rfl) ?_
  intro p e s m below meth c ls A hx hb hr hml hown hts hlocks hname hKX hP hD hA hS hl
  have hown : s.vm.findClass RX2 = some m.cls := hown
  have hl : lv_has ls 2 [(0, .ref (xq 23)), (1, .int 1)] := hl
  refine lv_iload_n hx hb dX2_lastOf_0 rfl (lv_at hl 1 rfl) ?_
  refine cl_i (wr := [(xc24 cy xh xq), (xc25 cy xh xq), (xc28 cy xh xq)]) (va_runSN (As := [.int 1]) (rest := []) ⟨hx, hb, hml, hown, hts⟩ (c_isDeckTrack l D cy 1 _) ⟨va_cnB 1 hts gX2_lastOf_X11_isDeckTrack_n34 rfl rfl rfl (hKX.2.1 (.methodLinkNest RX2 34 yX11_isDeckTrack RX11) (by decide +kernel)) (hts (.initialized RX11) (by decide +kernel)) (by decide +kernel) ⟨(Nat.le_of_ble_eq_true rfl), (Nat.le_of_ble_eq_true rfl)⟩, hts (.static yX11_isDeckTrack) (by decide +kernel), trivial⟩ (pre_S hKX hP hD [] rfl (by decide) rfl) rfl rfl hl.1 rfl (lv_room (Nat.le_of_ble_eq_true rfl)) dX2_lastOf_1 ⟨(Nat.le_of_ble_eq_true rfl), (Nat.le_of_ble_eq_true rfl)⟩) hP hD hS hA [] [0, 1, 2] rfl rfl (by decide) (by decide) (fun u1 H locs _ hP hD hS => ?_)
  have hP : va_P D vwCl [(xc24 cy xh xq), (xc25 cy xh xq), (xc28 cy xh xq)] H := hP
  have hD : va_D A [(xc24 cy xh xq), (xc25 cy xh xq), (xc28 cy xh xq)] := hD
  refine lv_cst 1 (by decide) ?_
  refine lv_if_eq (tgt := 30) hx hb dX2_lastOf_4 (by decide) (fun c9 => absurd c9 (by decide)) (fun _ => ?_)
  refine lv_aload_n hx hb dX2_lastOf_7 rfl (lv_at hl 0 rfl) ?_
  refine va_get (D := D) (ci := 2) (v := .ref (xq 24)) (C := RX2) (T := TX2) (N := 2) hx hb hts iw_X2_lastOf_X2 hown hKX.1 hP 0 rfl rfl 0 (by decide) (hts (.fieldLink RX2 14 "TrainFerry$Deck" "rows" "[LTrainFerry$Row;") (by decide +kernel)) (fun _ h9 => h9) rfl dX2_lastOf_8 ?_
  refine lv_iload_n hx hb dX2_lastOf_11 rfl (lv_at hl 1 rfl) ?_
  refine va_aldq hx hb hKX.1 hP 1 4 rfl rfl (vind (by decide)) dX2_lastOf_12 ?_
  refine lv_csv (.ref (xq 27)) rfl ?_
  refine lv_aload_n hx hb dX2_lastOf_13 rfl (lv_at hl 0 rfl) ?_
  refine va_get (D := D) (ci := 2) (v := .ref (xq 24)) (C := RX2) (T := TX2) (N := 2) hx hb hts iw_X2_lastOf_X2 hown hKX.1 hP 0 rfl rfl 0 (by decide) (hts (.fieldLink RX2 14 "TrainFerry$Deck" "rows" "[LTrainFerry$Row;") (by decide +kernel)) (fun _ h9 => h9) rfl dX2_lastOf_14 ?_
  refine lv_iload_n hx hb dX2_lastOf_17 rfl (lv_at hl 1 rfl) ?_
  refine va_aldq hx hb hKX.1 hP 1 4 rfl rfl (vind (by decide)) dX2_lastOf_18 ?_
  refine lv_csv (.ref (xq 27)) rfl ?_
  refine va_get (D := D) (ci := 5) (v := .int 0) (C := RX5) (T := TX5) (N := 3) hx hb hts iw_X2_lastOf_X5 hown hKX.1 hP 2 rfl rfl 1 (by decide) (hts (.fieldLink RX2 38 "TrainFerry$Row" "size" "I") (by decide +kernel)) (fun _ h9 => h9) rfl dX2_lastOf_19 ?_
  refine lv_iconst (v := 1) hx hb dX2_lastOf_22 (by decide) ?_
  refine lv_isub hx hb dX2_lastOf_23 ?_
  refine lv_cst (-1) (by decide) ?_
  refine cl_q (wr := [(xc24 cy xh xq), (xc25 cy xh xq)]) (va_runV (As := [.int (-1)]) (rest := []) ⟨hx, hb, hml, hown, hts⟩ (c_wagonAt l D cy (xq 27) (xq 28) (-1) _) (cwV 1 hts gX2_lastOf_X5_wagonAt rfl rfl rfl (by decide +kernel) ⟨(Nat.le_of_ble_eq_true rfl), (Nat.le_of_ble_eq_true rfl)⟩) (pre_V hKX hP hD (ci := 5) (q0 := 2) rfl rfl [2] rfl (by decide) rfl) rfl rfl hl.1 rfl (lv_room (Nat.le_of_ble_eq_true rfl)) dX2_lastOf_24 ⟨(Nat.le_of_ble_eq_true rfl), (Nat.le_of_ble_eq_true rfl)⟩) hP hD hS hA [2] [0, 1] rfl rfl (by decide) (by decide) (fun u2 H locs _ hP hD hS => ?_)
  have hP : va_P D vwCl [(xc24 cy xh xq), (xc25 cy xh xq), ((xq 27), .inr (5, [.ref (xq 28), .int 0, .int 0]))] H := hP
  have hD : va_D A [(xc24 cy xh xq), (xc25 cy xh xq), ((xq 27), .inr (5, [.ref (xq 28), .int 0, .int 0]))] := hD
  refine lv_csv (.null) rfl ?_
  refine lv_goto (tgt := 31) hx hb dX2_lastOf_27 (by decide) ?_
  exact en_q (v' := none) hx hb hr (Or.inl ⟨_, rfl⟩) hlocks rfl () rfl trivial (hP.sub [0, 1, 2] rfl) (hD.sub [0, 1, 2] (by decide) rfl) hS (Nat.le_of_ble_eq_true rfl) (Nat.le_of_ble_eq_true rfl) dX2_lastOf_31
set_option maxHeartbeats 4000000 in
set_option maxRecDepth 100000 in
theorem c_lastOf_2 (l : Launch) (D : va_G) (cy : Nat → ClassId) (xq : Nat → Nat) (sz : Nat) : Met l yX2_lastOf wsX2_lastOf ({ frames := 2, cells := 0, slots := 0, locals := 43 }) (wPre D cy [.ref (xq 23), .int 2] sz [(xc24 cy xh xq), (xc25 cy xh xq), (xc30 cy xh xq)]) (wQq D (fun _u : Unit => none) (fun _ : Unit => True) (fun _u : Unit => [(xc24 cy xh xq), (xc25 cy xh xq), (xc30 cy xh xq)]) (va_A [(xc24 cy xh xq), (xc25 cy xh xq), (xc30 cy xh xq)] sz)) 0 0 (va_A [(xc24 cy xh xq), (xc25 cy xh xq), (xc30 cy xh xq)] sz) := by
  refine met_go (y := yX2_lastOf) (ws := wsX2_lastOf) (av := [.ref (xq 23), .int 2]) (cc := cX2_lastOf) (maxL := 2) (ret := (some (.object "TrainFerry$Wagon"))) (Qc := fun A => wQq D (fun _u : Unit => none) (fun _ : Unit => True) (fun _u : Unit => [(xc24 cy xh xq), (xc25 cy xh xq), (xc30 cy xh xq)]) A) (by decide) rfl (Nat.le_of_ble_eq_true rfl) ?_
  intro p e s m below meth c ls A hx hb hr hml hown hts hlocks hname hKX hP hD hA hS hl
  have hown : s.vm.findClass RX2 = some m.cls := hown
  have hl : lv_has ls 2 [(0, .ref (xq 23)), (1, .int 2)] := hl
  refine lv_iload_n hx hb dX2_lastOf_0 rfl (lv_at hl 1 rfl) ?_
  refine cl_i (wr := [(xc24 cy xh xq), (xc25 cy xh xq), (xc30 cy xh xq)]) (va_runSN (As := [.int 2]) (rest := []) ⟨hx, hb, hml, hown, hts⟩ (c_isDeckTrack l D cy 2 _) ⟨va_cnB 1 hts gX2_lastOf_X11_isDeckTrack_n34 rfl rfl rfl (hKX.2.1 (.methodLinkNest RX2 34 yX11_isDeckTrack RX11) (by decide +kernel)) (hts (.initialized RX11) (by decide +kernel)) (by decide +kernel) ⟨(Nat.le_of_ble_eq_true rfl), (Nat.le_of_ble_eq_true rfl)⟩, hts (.static yX11_isDeckTrack) (by decide +kernel), trivial⟩ (pre_S hKX hP hD [] rfl (by decide) rfl) rfl rfl hl.1 rfl (lv_room (Nat.le_of_ble_eq_true rfl)) dX2_lastOf_1 ⟨(Nat.le_of_ble_eq_true rfl), (Nat.le_of_ble_eq_true rfl)⟩) hP hD hS hA [] [0, 1, 2] rfl rfl (by decide) (by decide) (fun u1 H locs _ hP hD hS => ?_)
  have hP : va_P D vwCl [(xc24 cy xh xq), (xc25 cy xh xq), (xc30 cy xh xq)] H := hP
  have hD : va_D A [(xc24 cy xh xq), (xc25 cy xh xq), (xc30 cy xh xq)] := hD
  refine lv_cst 1 (by decide) ?_
  refine lv_if_eq (tgt := 30) hx hb dX2_lastOf_4 (by decide) (fun c9 => absurd c9 (by decide)) (fun _ => ?_)
  refine lv_aload_n hx hb dX2_lastOf_7 rfl (lv_at hl 0 rfl) ?_
  refine va_get (D := D) (ci := 2) (v := .ref (xq 24)) (C := RX2) (T := TX2) (N := 2) hx hb hts iw_X2_lastOf_X2 hown hKX.1 hP 0 rfl rfl 0 (by decide) (hts (.fieldLink RX2 14 "TrainFerry$Deck" "rows" "[LTrainFerry$Row;") (by decide +kernel)) (fun _ h9 => h9) rfl dX2_lastOf_8 ?_
  refine lv_iload_n hx hb dX2_lastOf_11 rfl (lv_at hl 1 rfl) ?_
  refine va_aldq hx hb hKX.1 hP 1 4 rfl rfl (vind (by decide)) dX2_lastOf_12 ?_
  refine lv_csv (.ref (xq 29)) rfl ?_
  refine lv_aload_n hx hb dX2_lastOf_13 rfl (lv_at hl 0 rfl) ?_
  refine va_get (D := D) (ci := 2) (v := .ref (xq 24)) (C := RX2) (T := TX2) (N := 2) hx hb hts iw_X2_lastOf_X2 hown hKX.1 hP 0 rfl rfl 0 (by decide) (hts (.fieldLink RX2 14 "TrainFerry$Deck" "rows" "[LTrainFerry$Row;") (by decide +kernel)) (fun _ h9 => h9) rfl dX2_lastOf_14 ?_
  refine lv_iload_n hx hb dX2_lastOf_17 rfl (lv_at hl 1 rfl) ?_
  refine va_aldq hx hb hKX.1 hP 1 4 rfl rfl (vind (by decide)) dX2_lastOf_18 ?_
  refine lv_csv (.ref (xq 29)) rfl ?_
  refine va_get (D := D) (ci := 5) (v := .int 0) (C := RX5) (T := TX5) (N := 3) hx hb hts iw_X2_lastOf_X5 hown hKX.1 hP 2 rfl rfl 1 (by decide) (hts (.fieldLink RX2 38 "TrainFerry$Row" "size" "I") (by decide +kernel)) (fun _ h9 => h9) rfl dX2_lastOf_19 ?_
  refine lv_iconst (v := 1) hx hb dX2_lastOf_22 (by decide) ?_
  refine lv_isub hx hb dX2_lastOf_23 ?_
  refine lv_cst (-1) (by decide) ?_
  refine cl_q (wr := [(xc24 cy xh xq), (xc25 cy xh xq)]) (va_runV (As := [.int (-1)]) (rest := []) ⟨hx, hb, hml, hown, hts⟩ (c_wagonAt l D cy (xq 29) (xq 30) (-1) _) (cwV 1 hts gX2_lastOf_X5_wagonAt rfl rfl rfl (by decide +kernel) ⟨(Nat.le_of_ble_eq_true rfl), (Nat.le_of_ble_eq_true rfl)⟩) (pre_V hKX hP hD (ci := 5) (q0 := 2) rfl rfl [2] rfl (by decide) rfl) rfl rfl hl.1 rfl (lv_room (Nat.le_of_ble_eq_true rfl)) dX2_lastOf_24 ⟨(Nat.le_of_ble_eq_true rfl), (Nat.le_of_ble_eq_true rfl)⟩) hP hD hS hA [2] [0, 1] rfl rfl (by decide) (by decide) (fun u2 H locs _ hP hD hS => ?_)
  have hP : va_P D vwCl [(xc24 cy xh xq), (xc25 cy xh xq), ((xq 29), .inr (5, [.ref (xq 30), .int 0, .int 0]))] H := hP
  have hD : va_D A [(xc24 cy xh xq), (xc25 cy xh xq), ((xq 29), .inr (5, [.ref (xq 30), .int 0, .int 0]))] := hD
  refine lv_csv (.null) rfl ?_
  refine lv_goto (tgt := 31) hx hb dX2_lastOf_27 (by decide) ?_
  exact en_q (v' := none) hx hb hr (Or.inl ⟨_, rfl⟩) hlocks rfl () rfl trivial (hP.sub [0, 1, 2] rfl) (hD.sub [0, 1, 2] (by decide) rfl) hS (Nat.le_of_ble_eq_true rfl) (Nat.le_of_ble_eq_true rfl) dX2_lastOf_31
set_option maxHeartbeats 4000000 in
set_option maxRecDepth 100000 in
theorem c_lastOf_3 (l : Launch) (D : va_G) (cy : Nat → ClassId) (xq : Nat → Nat) (sz : Nat) : Met l yX2_lastOf wsX2_lastOf ({ frames := 2, cells := 0, slots := 0, locals := 43 }) (wPre D cy [.ref (xq 23), .int 3] sz [(xc24 cy xh xq), (xc25 cy xh xq), (xc32 cy xh xq)]) (wQq D (fun _u : Unit => none) (fun _ : Unit => True) (fun _u : Unit => [(xc24 cy xh xq), (xc25 cy xh xq), (xc32 cy xh xq)]) (va_A [(xc24 cy xh xq), (xc25 cy xh xq), (xc32 cy xh xq)] sz)) 0 0 (va_A [(xc24 cy xh xq), (xc25 cy xh xq), (xc32 cy xh xq)] sz) := by
  refine met_go (y := yX2_lastOf) (ws := wsX2_lastOf) (av := [.ref (xq 23), .int 3]) (cc := cX2_lastOf) (maxL := 2) (ret := (some (.object "TrainFerry$Wagon"))) (Qc := fun A => wQq D (fun _u : Unit => none) (fun _ : Unit => True) (fun _u : Unit => [(xc24 cy xh xq), (xc25 cy xh xq), (xc32 cy xh xq)]) A) (by decide) rfl (Nat.le_of_ble_eq_true rfl) ?_
  intro p e s m below meth c ls A hx hb hr hml hown hts hlocks hname hKX hP hD hA hS hl
  have hown : s.vm.findClass RX2 = some m.cls := hown
  have hl : lv_has ls 2 [(0, .ref (xq 23)), (1, .int 3)] := hl
  refine lv_iload_n hx hb dX2_lastOf_0 rfl (lv_at hl 1 rfl) ?_
  refine cl_i (wr := [(xc24 cy xh xq), (xc25 cy xh xq), (xc32 cy xh xq)]) (va_runSN (As := [.int 3]) (rest := []) ⟨hx, hb, hml, hown, hts⟩ (c_isDeckTrack l D cy 3 _) ⟨va_cnB 1 hts gX2_lastOf_X11_isDeckTrack_n34 rfl rfl rfl (hKX.2.1 (.methodLinkNest RX2 34 yX11_isDeckTrack RX11) (by decide +kernel)) (hts (.initialized RX11) (by decide +kernel)) (by decide +kernel) ⟨(Nat.le_of_ble_eq_true rfl), (Nat.le_of_ble_eq_true rfl)⟩, hts (.static yX11_isDeckTrack) (by decide +kernel), trivial⟩ (pre_S hKX hP hD [] rfl (by decide) rfl) rfl rfl hl.1 rfl (lv_room (Nat.le_of_ble_eq_true rfl)) dX2_lastOf_1 ⟨(Nat.le_of_ble_eq_true rfl), (Nat.le_of_ble_eq_true rfl)⟩) hP hD hS hA [] [0, 1, 2] rfl rfl (by decide) (by decide) (fun u1 H locs _ hP hD hS => ?_)
  have hP : va_P D vwCl [(xc24 cy xh xq), (xc25 cy xh xq), (xc32 cy xh xq)] H := hP
  have hD : va_D A [(xc24 cy xh xq), (xc25 cy xh xq), (xc32 cy xh xq)] := hD
  refine lv_cst 1 (by decide) ?_
  refine lv_if_eq (tgt := 30) hx hb dX2_lastOf_4 (by decide) (fun c9 => absurd c9 (by decide)) (fun _ => ?_)
  refine lv_aload_n hx hb dX2_lastOf_7 rfl (lv_at hl 0 rfl) ?_
  refine va_get (D := D) (ci := 2) (v := .ref (xq 24)) (C := RX2) (T := TX2) (N := 2) hx hb hts iw_X2_lastOf_X2 hown hKX.1 hP 0 rfl rfl 0 (by decide) (hts (.fieldLink RX2 14 "TrainFerry$Deck" "rows" "[LTrainFerry$Row;") (by decide +kernel)) (fun _ h9 => h9) rfl dX2_lastOf_8 ?_
  refine lv_iload_n hx hb dX2_lastOf_11 rfl (lv_at hl 1 rfl) ?_
  refine va_aldq hx hb hKX.1 hP 1 4 rfl rfl (vind (by decide)) dX2_lastOf_12 ?_
  refine lv_csv (.ref (xq 31)) rfl ?_
  refine lv_aload_n hx hb dX2_lastOf_13 rfl (lv_at hl 0 rfl) ?_
  refine va_get (D := D) (ci := 2) (v := .ref (xq 24)) (C := RX2) (T := TX2) (N := 2) hx hb hts iw_X2_lastOf_X2 hown hKX.1 hP 0 rfl rfl 0 (by decide) (hts (.fieldLink RX2 14 "TrainFerry$Deck" "rows" "[LTrainFerry$Row;") (by decide +kernel)) (fun _ h9 => h9) rfl dX2_lastOf_14 ?_
  refine lv_iload_n hx hb dX2_lastOf_17 rfl (lv_at hl 1 rfl) ?_
  refine va_aldq hx hb hKX.1 hP 1 4 rfl rfl (vind (by decide)) dX2_lastOf_18 ?_
  refine lv_csv (.ref (xq 31)) rfl ?_
  refine va_get (D := D) (ci := 5) (v := .int 0) (C := RX5) (T := TX5) (N := 3) hx hb hts iw_X2_lastOf_X5 hown hKX.1 hP 2 rfl rfl 1 (by decide) (hts (.fieldLink RX2 38 "TrainFerry$Row" "size" "I") (by decide +kernel)) (fun _ h9 => h9) rfl dX2_lastOf_19 ?_
  refine lv_iconst (v := 1) hx hb dX2_lastOf_22 (by decide) ?_
  refine lv_isub hx hb dX2_lastOf_23 ?_
  refine lv_cst (-1) (by decide) ?_
  refine cl_q (wr := [(xc24 cy xh xq), (xc25 cy xh xq)]) (va_runV (As := [.int (-1)]) (rest := []) ⟨hx, hb, hml, hown, hts⟩ (c_wagonAt l D cy (xq 31) (xq 32) (-1) _) (cwV 1 hts gX2_lastOf_X5_wagonAt rfl rfl rfl (by decide +kernel) ⟨(Nat.le_of_ble_eq_true rfl), (Nat.le_of_ble_eq_true rfl)⟩) (pre_V hKX hP hD (ci := 5) (q0 := 2) rfl rfl [2] rfl (by decide) rfl) rfl rfl hl.1 rfl (lv_room (Nat.le_of_ble_eq_true rfl)) dX2_lastOf_24 ⟨(Nat.le_of_ble_eq_true rfl), (Nat.le_of_ble_eq_true rfl)⟩) hP hD hS hA [2] [0, 1] rfl rfl (by decide) (by decide) (fun u2 H locs _ hP hD hS => ?_)
  have hP : va_P D vwCl [(xc24 cy xh xq), (xc25 cy xh xq), ((xq 31), .inr (5, [.ref (xq 32), .int 0, .int 0]))] H := hP
  have hD : va_D A [(xc24 cy xh xq), (xc25 cy xh xq), ((xq 31), .inr (5, [.ref (xq 32), .int 0, .int 0]))] := hD
  refine lv_csv (.null) rfl ?_
  refine lv_goto (tgt := 31) hx hb dX2_lastOf_27 (by decide) ?_
  exact en_q (v' := none) hx hb hr (Or.inl ⟨_, rfl⟩) hlocks rfl () rfl trivial (hP.sub [0, 1, 2] rfl) (hD.sub [0, 1, 2] (by decide) rfl) hS (Nat.le_of_ble_eq_true rfl) (Nat.le_of_ble_eq_true rfl) dX2_lastOf_31
set_option maxHeartbeats 4000000 in
set_option maxRecDepth 100000 in
theorem c_lastOf_o (l : Launch) (D : va_G) (cy : Nat → ClassId) (xq : Nat → Nat) (xd : Int32) (hd : (wi xd 0 3) = 0) (sz : Nat) : Met l yX2_lastOf wsX2_lastOf ({ frames := 2, cells := 0, slots := 0, locals := 42 }) (wPre D cy [.ref (xq 23), .int xd] sz []) (wQq D (fun _u : Unit => none) (fun _ : Unit => True) (fun _u : Unit => []) (va_A [] sz)) 0 0 (va_A [] sz) := by
  refine met_go (y := yX2_lastOf) (ws := wsX2_lastOf) (av := [.ref (xq 23), .int xd]) (cc := cX2_lastOf) (maxL := 2) (ret := (some (.object "TrainFerry$Wagon"))) (Qc := fun A => wQq D (fun _u : Unit => none) (fun _ : Unit => True) (fun _u : Unit => []) A) (by decide) rfl (Nat.le_of_ble_eq_true rfl) ?_
  intro p e s m below meth c ls A hx hb hr hml hown hts hlocks hname hKX hP hD hA hS hl
  have hown : s.vm.findClass RX2 = some m.cls := hown
  have hl : lv_has ls 2 [(0, .ref (xq 23)), (1, .int xd)] := hl
  refine lv_iload_n hx hb dX2_lastOf_0 rfl (lv_at hl 1 rfl) ?_
  refine cl_i (wr := []) (va_runSN (As := [.int xd]) (rest := []) ⟨hx, hb, hml, hown, hts⟩ (c_isDeckTrack l D cy xd _) ⟨va_cnB 1 hts gX2_lastOf_X11_isDeckTrack_n34 rfl rfl rfl (hKX.2.1 (.methodLinkNest RX2 34 yX11_isDeckTrack RX11) (by decide +kernel)) (hts (.initialized RX11) (by decide +kernel)) (by decide +kernel) ⟨(Nat.le_of_ble_eq_true rfl), (Nat.le_of_ble_eq_true rfl)⟩, hts (.static yX11_isDeckTrack) (by decide +kernel), trivial⟩ (pre_S hKX hP hD [] rfl (by decide) rfl) rfl rfl hl.1 rfl (lv_room (Nat.le_of_ble_eq_true rfl)) dX2_lastOf_1 ⟨(Nat.le_of_ble_eq_true rfl), (Nat.le_of_ble_eq_true rfl)⟩) hP hD hS hA [] [] rfl rfl (by decide) (by decide) (fun u1 H locs _ hP hD hS => ?_)
  have hP : va_P D vwCl [] H := hP
  have hD : va_D A [] := hD
  refine lv_if_eq (tgt := 30) hx hb dX2_lastOf_4 (by decide) (fun _ => ?_) (fun c9 => absurd hd c9)
  refine lv_null hx hb dX2_lastOf_30 ?_
  exact en_q (v' := none) hx hb hr (Or.inl ⟨_, rfl⟩) hlocks rfl () rfl trivial (hP.sub [] rfl) (hD.sub [] (by decide) rfl) hS (Nat.le_of_ble_eq_true rfl) (Nat.le_of_ble_eq_true rfl) dX2_lastOf_31
theorem iw_X11_off_X11 : ∀ w ∈ wsX110, w ∈ wsX11_off := by decide +kernel
set_option maxHeartbeats 4000000 in
set_option maxRecDepth 100000 in
theorem c_off (l : Launch) (D : va_G) (cy : Nat → ClassId) (xh : Nat) (xq : Nat → Nat) (xd : Int32) (xt : Int32) (sz : Nat) : Met l yX11_off wsX11_off ({ frames := 3, cells := 0, slots := 0, locals := 64 }) (wPre D cy [.ref xh, .int xd, .int xt] sz [(xc0 cy xh xq), (xc24 cy xh xq), (xc25 cy xh xq), (xc26 cy xh xq), (xc28 cy xh xq), (xc30 cy xh xq), (xc32 cy xh xq)]) (wQi D (-1) (fun _ : Unit => True) (fun _u : Unit => []) (va_A [(xc0 cy xh xq), (xc24 cy xh xq), (xc25 cy xh xq), (xc26 cy xh xq), (xc28 cy xh xq), (xc30 cy xh xq), (xc32 cy xh xq)] sz)) 0 0 (va_A [(xc0 cy xh xq), (xc24 cy xh xq), (xc25 cy xh xq), (xc26 cy xh xq), (xc28 cy xh xq), (xc30 cy xh xq), (xc32 cy xh xq)] sz) := by
  refine met_go (y := yX11_off) (ws := wsX11_off) (av := [.ref xh, .int xd, .int xt]) (cc := cX11_off) (maxL := 5) (ret := (some .int)) (Qc := fun A => wQi D (-1) (fun _ : Unit => True) (fun _u : Unit => []) A) (by decide) rfl (Nat.le_of_ble_eq_true rfl) ?_
  intro p e s m below meth c ls A hx hb hr hml hown hts hlocks hname hKX hP hD hA hS hl
  have hown : s.vm.findClass RX11 = some m.cls := hown
  have hl : lv_has ls 5 [(0, .ref xh), (1, .int xd), (2, .int xt)] := hl
  rcases sp4 xd with rfl | rfl | rfl | rfl | o1
  · refine lv_aload_n hx hb dX11_off_0 rfl (lv_at hl 0 rfl) ?_
    refine va_get (D := D) (ci := 11) (v := .ref (xq 23)) (C := RX11) (T := TX11) (N := 18) hx hb hts iw_X11_off_X11 hown hKX.1 hP 0 rfl rfl 1 (by decide) (hts (.fieldLink RX11 19 "TrainFerry" "deck" "LTrainFerry$Deck;") (by decide +kernel)) (fun _ h9 => h9) rfl dX11_off_1 ?_
    refine lv_iload_n hx hb dX11_off_4 rfl (lv_at hl 1 rfl) ?_
    refine cl_q (wr := [(xc0 cy xh xq), (xc28 cy xh xq), (xc30 cy xh xq), (xc32 cy xh xq)]) (va_runV (As := [.int 0]) (rest := []) ⟨hx, hb, hml, hown, hts⟩ (c_lastOf_0 l D cy xq _) (cwV 1 hts gX11_off_X2_lastOf rfl rfl rfl (by decide +kernel) ⟨(Nat.le_of_ble_eq_true rfl), (Nat.le_of_ble_eq_true rfl)⟩) (pre_V hKX hP hD (ci := 2) (q0 := 1) rfl rfl [1, 2, 3] rfl (by decide) rfl) rfl rfl hl.1 rfl (lv_room (Nat.le_of_ble_eq_true rfl)) dX11_off_5 ⟨(Nat.le_of_ble_eq_true rfl), (Nat.le_of_ble_eq_true rfl)⟩) hP hD hS hA [1, 2, 3] [0, 4, 5, 6] rfl rfl (by decide) (by decide) (fun u2 H locs _ hP hD hS => ?_)
    have hP : va_P D vwCl [(xc0 cy xh xq), (xc28 cy xh xq), (xc30 cy xh xq), (xc32 cy xh xq), (xc24 cy xh xq), (xc25 cy xh xq), (xc26 cy xh xq)] H := hP
    have hD : va_D A [(xc0 cy xh xq), (xc28 cy xh xq), (xc30 cy xh xq), (xc32 cy xh xq), (xc24 cy xh xq), (xc25 cy xh xq), (xc26 cy xh xq)] := hD
    refine lv_csv (.null) rfl ?_
    refine lv_astore_nN (lv' := [(3, .null), (0, .ref xh), (1, .int 0), (2, .int xt)]) hx hb dX11_off_8 rfl hl (by decide) rfl (fun ls hl => ?_)
    refine lv_aload_nN hx hb dX11_off_9 rfl (lv_at hl 0 rfl) ?_
    refine lv_ifnonnullN hx hb dX11_off_10 ?_
    refine lv_iconst (v := (-1)) hx hb dX11_off_13 (by decide) ?_
    exact en_i hx hb hr hlocks () rfl trivial (hP.sub [] rfl) (hD.sub [] (by decide) rfl) hS (Nat.le_of_ble_eq_true rfl) (Nat.le_of_ble_eq_true rfl) dX11_off_14
  · refine lv_aload_n hx hb dX11_off_0 rfl (lv_at hl 0 rfl) ?_
    refine va_get (D := D) (ci := 11) (v := .ref (xq 23)) (C := RX11) (T := TX11) (N := 18) hx hb hts iw_X11_off_X11 hown hKX.1 hP 0 rfl rfl 1 (by decide) (hts (.fieldLink RX11 19 "TrainFerry" "deck" "LTrainFerry$Deck;") (by decide +kernel)) (fun _ h9 => h9) rfl dX11_off_1 ?_
    refine lv_iload_n hx hb dX11_off_4 rfl (lv_at hl 1 rfl) ?_
    refine cl_q (wr := [(xc0 cy xh xq), (xc26 cy xh xq), (xc30 cy xh xq), (xc32 cy xh xq)]) (va_runV (As := [.int 1]) (rest := []) ⟨hx, hb, hml, hown, hts⟩ (c_lastOf_1 l D cy xq _) (cwV 1 hts gX11_off_X2_lastOf rfl rfl rfl (by decide +kernel) ⟨(Nat.le_of_ble_eq_true rfl), (Nat.le_of_ble_eq_true rfl)⟩) (pre_V hKX hP hD (ci := 2) (q0 := 1) rfl rfl [1, 2, 4] rfl (by decide) rfl) rfl rfl hl.1 rfl (lv_room (Nat.le_of_ble_eq_true rfl)) dX11_off_5 ⟨(Nat.le_of_ble_eq_true rfl), (Nat.le_of_ble_eq_true rfl)⟩) hP hD hS hA [1, 2, 4] [0, 3, 5, 6] rfl rfl (by decide) (by decide) (fun u3 H locs _ hP hD hS => ?_)
    have hP : va_P D vwCl [(xc0 cy xh xq), (xc26 cy xh xq), (xc30 cy xh xq), (xc32 cy xh xq), (xc24 cy xh xq), (xc25 cy xh xq), (xc28 cy xh xq)] H := hP
    have hD : va_D A [(xc0 cy xh xq), (xc26 cy xh xq), (xc30 cy xh xq), (xc32 cy xh xq), (xc24 cy xh xq), (xc25 cy xh xq), (xc28 cy xh xq)] := hD
    refine lv_csv (.null) rfl ?_
    refine lv_astore_nN (lv' := [(3, .null), (0, .ref xh), (1, .int 1), (2, .int xt)]) hx hb dX11_off_8 rfl hl (by decide) rfl (fun ls hl => ?_)
    refine lv_aload_nN hx hb dX11_off_9 rfl (lv_at hl 0 rfl) ?_
    refine lv_ifnonnullN hx hb dX11_off_10 ?_
    refine lv_iconst (v := (-1)) hx hb dX11_off_13 (by decide) ?_
    exact en_i hx hb hr hlocks () rfl trivial (hP.sub [] rfl) (hD.sub [] (by decide) rfl) hS (Nat.le_of_ble_eq_true rfl) (Nat.le_of_ble_eq_true rfl) dX11_off_14
  · refine lv_aload_n hx hb dX11_off_0 rfl (lv_at hl 0 rfl) ?_
    refine va_get (D := D) (ci := 11) (v := .ref (xq 23)) (C := RX11) (T := TX11) (N := 18) hx hb hts iw_X11_off_X11 hown hKX.1 hP 0 rfl rfl 1 (by decide) (hts (.fieldLink RX11 19 "TrainFerry" "deck" "LTrainFerry$Deck;") (by decide +kernel)) (fun _ h9 => h9) rfl dX11_off_1 ?_
    refine lv_iload_n hx hb dX11_off_4 rfl (lv_at hl 1 rfl) ?_
    refine cl_q (wr := [(xc0 cy xh xq), (xc26 cy xh xq), (xc28 cy xh xq), (xc32 cy xh xq)]) (va_runV (As := [.int 2]) (rest := []) ⟨hx, hb, hml, hown, hts⟩ (c_lastOf_2 l D cy xq _) (cwV 1 hts gX11_off_X2_lastOf rfl rfl rfl (by decide +kernel) ⟨(Nat.le_of_ble_eq_true rfl), (Nat.le_of_ble_eq_true rfl)⟩) (pre_V hKX hP hD (ci := 2) (q0 := 1) rfl rfl [1, 2, 5] rfl (by decide) rfl) rfl rfl hl.1 rfl (lv_room (Nat.le_of_ble_eq_true rfl)) dX11_off_5 ⟨(Nat.le_of_ble_eq_true rfl), (Nat.le_of_ble_eq_true rfl)⟩) hP hD hS hA [1, 2, 5] [0, 3, 4, 6] rfl rfl (by decide) (by decide) (fun u4 H locs _ hP hD hS => ?_)
    have hP : va_P D vwCl [(xc0 cy xh xq), (xc26 cy xh xq), (xc28 cy xh xq), (xc32 cy xh xq), (xc24 cy xh xq), (xc25 cy xh xq), (xc30 cy xh xq)] H := hP
    have hD : va_D A [(xc0 cy xh xq), (xc26 cy xh xq), (xc28 cy xh xq), (xc32 cy xh xq), (xc24 cy xh xq), (xc25 cy xh xq), (xc30 cy xh xq)] := hD
    refine lv_csv (.null) rfl ?_
    refine lv_astore_nN (lv' := [(3, .null), (0, .ref xh), (1, .int 2), (2, .int xt)]) hx hb dX11_off_8 rfl hl (by decide) rfl (fun ls hl => ?_)
    refine lv_aload_nN hx hb dX11_off_9 rfl (lv_at hl 0 rfl) ?_
    refine lv_ifnonnullN hx hb dX11_off_10 ?_
    refine lv_iconst (v := (-1)) hx hb dX11_off_13 (by decide) ?_
    exact en_i hx hb hr hlocks () rfl trivial (hP.sub [] rfl) (hD.sub [] (by decide) rfl) hS (Nat.le_of_ble_eq_true rfl) (Nat.le_of_ble_eq_true rfl) dX11_off_14
  · refine lv_aload_n hx hb dX11_off_0 rfl (lv_at hl 0 rfl) ?_
    refine va_get (D := D) (ci := 11) (v := .ref (xq 23)) (C := RX11) (T := TX11) (N := 18) hx hb hts iw_X11_off_X11 hown hKX.1 hP 0 rfl rfl 1 (by decide) (hts (.fieldLink RX11 19 "TrainFerry" "deck" "LTrainFerry$Deck;") (by decide +kernel)) (fun _ h9 => h9) rfl dX11_off_1 ?_
    refine lv_iload_n hx hb dX11_off_4 rfl (lv_at hl 1 rfl) ?_
    refine cl_q (wr := [(xc0 cy xh xq), (xc26 cy xh xq), (xc28 cy xh xq), (xc30 cy xh xq)]) (va_runV (As := [.int 3]) (rest := []) ⟨hx, hb, hml, hown, hts⟩ (c_lastOf_3 l D cy xq _) (cwV 1 hts gX11_off_X2_lastOf rfl rfl rfl (by decide +kernel) ⟨(Nat.le_of_ble_eq_true rfl), (Nat.le_of_ble_eq_true rfl)⟩) (pre_V hKX hP hD (ci := 2) (q0 := 1) rfl rfl [1, 2, 6] rfl (by decide) rfl) rfl rfl hl.1 rfl (lv_room (Nat.le_of_ble_eq_true rfl)) dX11_off_5 ⟨(Nat.le_of_ble_eq_true rfl), (Nat.le_of_ble_eq_true rfl)⟩) hP hD hS hA [1, 2, 6] [0, 3, 4, 5] rfl rfl (by decide) (by decide) (fun u5 H locs _ hP hD hS => ?_)
    have hP : va_P D vwCl [(xc0 cy xh xq), (xc26 cy xh xq), (xc28 cy xh xq), (xc30 cy xh xq), (xc24 cy xh xq), (xc25 cy xh xq), (xc32 cy xh xq)] H := hP
    have hD : va_D A [(xc0 cy xh xq), (xc26 cy xh xq), (xc28 cy xh xq), (xc30 cy xh xq), (xc24 cy xh xq), (xc25 cy xh xq), (xc32 cy xh xq)] := hD
    refine lv_csv (.null) rfl ?_
    refine lv_astore_nN (lv' := [(3, .null), (0, .ref xh), (1, .int 3), (2, .int xt)]) hx hb dX11_off_8 rfl hl (by decide) rfl (fun ls hl => ?_)
    refine lv_aload_nN hx hb dX11_off_9 rfl (lv_at hl 0 rfl) ?_
    refine lv_ifnonnullN hx hb dX11_off_10 ?_
    refine lv_iconst (v := (-1)) hx hb dX11_off_13 (by decide) ?_
    exact en_i hx hb hr hlocks () rfl trivial (hP.sub [] rfl) (hD.sub [] (by decide) rfl) hS (Nat.le_of_ble_eq_true rfl) (Nat.le_of_ble_eq_true rfl) dX11_off_14
  · refine lv_aload_n hx hb dX11_off_0 rfl (lv_at hl 0 rfl) ?_
    refine va_get (D := D) (ci := 11) (v := .ref (xq 23)) (C := RX11) (T := TX11) (N := 18) hx hb hts iw_X11_off_X11 hown hKX.1 hP 0 rfl rfl 1 (by decide) (hts (.fieldLink RX11 19 "TrainFerry" "deck" "LTrainFerry$Deck;") (by decide +kernel)) (fun _ h9 => h9) rfl dX11_off_1 ?_
    refine lv_iload_n hx hb dX11_off_4 rfl (lv_at hl 1 rfl) ?_
    refine cl_q (wr := [(xc0 cy xh xq), (xc24 cy xh xq), (xc25 cy xh xq), (xc26 cy xh xq), (xc28 cy xh xq), (xc30 cy xh xq), (xc32 cy xh xq)]) (va_runV (As := [.int xd]) (rest := []) ⟨hx, hb, hml, hown, hts⟩ (c_lastOf_o l D cy xq xd o1 _) (cwV 1 hts gX11_off_X2_lastOf rfl rfl rfl (by decide +kernel) ⟨(Nat.le_of_ble_eq_true rfl), (Nat.le_of_ble_eq_true rfl)⟩) (pre_V hKX hP hD (ci := 2) (q0 := 1) rfl rfl [] rfl (by decide) rfl) rfl rfl hl.1 rfl (lv_room (Nat.le_of_ble_eq_true rfl)) dX11_off_5 ⟨(Nat.le_of_ble_eq_true rfl), (Nat.le_of_ble_eq_true rfl)⟩) hP hD hS hA [] [0, 1, 2, 3, 4, 5, 6] rfl rfl (by decide) (by decide) (fun u6 H locs _ hP hD hS => ?_)
    have hP : va_P D vwCl [(xc0 cy xh xq), (xc24 cy xh xq), (xc25 cy xh xq), (xc26 cy xh xq), (xc28 cy xh xq), (xc30 cy xh xq), (xc32 cy xh xq)] H := hP
    have hD : va_D A [(xc0 cy xh xq), (xc24 cy xh xq), (xc25 cy xh xq), (xc26 cy xh xq), (xc28 cy xh xq), (xc30 cy xh xq), (xc32 cy xh xq)] := hD
    refine lv_csv (.null) rfl ?_
    refine lv_astore_nN (lv' := [(3, .null), (0, .ref xh), (1, .int xd), (2, .int xt)]) hx hb dX11_off_8 rfl hl (by decide) rfl (fun ls hl => ?_)
    refine lv_aload_nN hx hb dX11_off_9 rfl (lv_at hl 0 rfl) ?_
    refine lv_ifnonnullN hx hb dX11_off_10 ?_
    refine lv_iconst (v := (-1)) hx hb dX11_off_13 (by decide) ?_
    exact en_i hx hb hr hlocks () rfl trivial (hP.sub [] rfl) (hD.sub [] (by decide) rfl) hS (Nat.le_of_ble_eq_true rfl) (Nat.le_of_ble_eq_true rfl) dX11_off_14
theorem iw_X8_chainsNeeded_X8 : ∀ w ∈ wsX80, w ∈ wsX8_chainsNeeded := by decide +kernel
set_option maxHeartbeats 4000000 in
set_option maxRecDepth 100000 in
theorem c_chains (l : Launch) (D : va_G) (cy : Nat → ClassId) (h : Nat) (ra : Nat) (rb : Nat) (rc : Nat) (rd : Nat) (sz : Nat) : Met l yX8_chainsNeeded wsX8_chainsNeeded ({ frames := 0, cells := 0, slots := 0, locals := 0 }) (wPre D cy [.ref h, .int 0] sz [(h, .inr (8, [.ref ra, .ref rb, .ref rc, .ref rd, .int 0, .int 0, .int 0, .int 0, .int 100, .int 200]))]) (wQi D 0 (fun _ : Unit => True) (fun _u : Unit => [(h, .inr (8, [.ref ra, .ref rb, .ref rc, .ref rd, .int 0, .int 0, .int 0, .int 0, .int 100, .int 200]))]) (va_A [(h, .inr (8, [.ref ra, .ref rb, .ref rc, .ref rd, .int 0, .int 0, .int 0, .int 0, .int 100, .int 200]))] sz)) 0 0 (va_A [(h, .inr (8, [.ref ra, .ref rb, .ref rc, .ref rd, .int 0, .int 0, .int 0, .int 0, .int 100, .int 200]))] sz) := by
  refine met_go (y := yX8_chainsNeeded) (ws := wsX8_chainsNeeded) (av := [.ref h, .int 0]) (cc := cX8_chainsNeeded) (maxL := 2) (ret := (some .int)) (Qc := fun A => wQi D 0 (fun _ : Unit => True) (fun _u : Unit => [(h, .inr (8, [.ref ra, .ref rb, .ref rc, .ref rd, .int 0, .int 0, .int 0, .int 0, .int 100, .int 200]))]) A) (by decide) rfl (Nat.le_of_ble_eq_true rfl) ?_
  intro p e s m below meth c ls A hx hb hr hml hown hts hlocks hname hKX hP hD hA hS hl
  have hown : s.vm.findClass RX8 = some m.cls := hown
  have hl : lv_has ls 2 [(0, .ref h), (1, .int 0)] := hl
  refine lv_aload_n hx hb dX8_chainsNeeded_0 rfl (lv_at hl 0 rfl) ?_
  refine va_get (D := D) (ci := 8) (v := .int 0) (C := RX8) (T := TX8) (N := 10) hx hb hts iw_X8_chainsNeeded_X8 hown hKX.1 hP 0 rfl rfl 6 (by decide) (hts (.fieldLink RX8 31 "TrainFerry$Tally" "chainUnits" "I") (by decide +kernel)) (fun _ h9 => h9) rfl dX8_chainsNeeded_1 ?_
  refine lv_iload_n hx hb dX8_chainsNeeded_4 rfl (lv_at hl 1 rfl) ?_
  refine lv_imul hx hb dX8_chainsNeeded_5 ?_
  refine lv_cst 0 (by decide) ?_
  exact en_i hx hb hr hlocks () rfl trivial (hP.sub [0] rfl) (hD.sub [0] (by decide) rfl) hS (Nat.le_of_ble_eq_true rfl) (Nat.le_of_ble_eq_true rfl) dX8_chainsNeeded_6
theorem iw_X11_sail_X11 : ∀ w ∈ wsX110, w ∈ wsX11_sail := by decide +kernel
theorem iw_X11_sail_X2 : ∀ w ∈ wsX20, w ∈ wsX11_sail := by decide +kernel
set_option maxHeartbeats 4000000 in
set_option maxRecDepth 100000 in
theorem c_sail (l : Launch) (D : va_G) (cy : Nat → ClassId) (xh : Nat) (xq : Nat → Nat) (sz : Nat) : Met l yX11_sail wsX11_sail ({ frames := 1, cells := 0, slots := 0, locals := 21 }) (wPre D cy [.ref xh] sz [(xc0 cy xh xq), (xc24 cy xh xq), (xc34 cy xh xq)]) (wQi D 10 (fun _ : Unit => True) (fun _u : Unit => []) (va_A [(xc0 cy xh xq), (xc24 cy xh xq), (xc34 cy xh xq)] sz)) 0 0 (va_A [(xc0 cy xh xq), (xc24 cy xh xq), (xc34 cy xh xq)] sz) := by
  refine met_go (y := yX11_sail) (ws := wsX11_sail) (av := [.ref xh]) (cc := cX11_sail) (maxL := 1) (ret := (some .int)) (Qc := fun A => wQi D 10 (fun _ : Unit => True) (fun _u : Unit => []) A) (by decide) rfl (Nat.le_of_ble_eq_true rfl) ?_
  intro p e s m below meth c ls A hx hb hr hml hown hts hlocks hname hKX hP hD hA hS hl
  have hown : s.vm.findClass RX11 = some m.cls := hown
  have hl : lv_has ls 1 [(0, .ref xh)] := hl
  refine lv_aload_n hx hb dX11_sail_0 rfl (lv_at hl 0 rfl) ?_
  refine va_get (D := D) (ci := 11) (v := .int 0) (C := RX11) (T := TX11) (N := 18) hx hb hts iw_X11_sail_X11 hown hKX.1 hP 0 rfl rfl 11 (by decide) (hts (.fieldLink RX11 70 "TrainFerry" "ferryAt" "I") (by decide +kernel)) (fun _ h9 => h9) rfl dX11_sail_1 ?_
  refine lv_iconst (v := 2) hx hb dX11_sail_4 (by decide) ?_
  refine lv_icmp_ne (tgt := 10) hx hb dX11_sail_5 (by decide) (fun _ => ?_) (fun c9 => absurd c9 (by decide))
  refine lv_aload_n hx hb dX11_sail_10 rfl (lv_at hl 0 rfl) ?_
  refine va_get (D := D) (ci := 11) (v := .int 0) (C := RX11) (T := TX11) (N := 18) hx hb hts iw_X11_sail_X11 hown hKX.1 hP 0 rfl rfl 15 (by decide) (hts (.fieldLink RX11 82 "TrainFerry" "sea" "I") (by decide +kernel)) (fun _ h9 => h9) rfl dX11_sail_11 ?_
  refine lv_iconst (v := 5) hx hb dX11_sail_14 (by decide) ?_
  refine lv_icmp_lt (tgt := 21) hx hb dX11_sail_15 (by decide) (fun _ => ?_) (fun c9 => absurd (by decide) c9)
  refine lv_aload_n hx hb dX11_sail_21 rfl (lv_at hl 0 rfl) ?_
  refine va_get (D := D) (ci := 11) (v := .ref (xq 23)) (C := RX11) (T := TX11) (N := 18) hx hb hts iw_X11_sail_X11 hown hKX.1 hP 0 rfl rfl 1 (by decide) (hts (.fieldLink RX11 19 "TrainFerry" "deck" "LTrainFerry$Deck;") (by decide +kernel)) (fun _ h9 => h9) rfl dX11_sail_22 ?_
  refine va_get (D := D) (ci := 2) (v := .ref (xq 33)) (C := RX2) (T := TX2) (N := 2) hx hb hts iw_X11_sail_X2 hown hKX.1 hP 1 rfl rfl 1 (by decide) (hts (.fieldLink RX11 95 "TrainFerry$Deck" "tally" "LTrainFerry$Tally;") (by decide +kernel)) (fun _ h9 => h9) rfl dX11_sail_25 ?_
  refine lv_aload_n hx hb dX11_sail_28 rfl (lv_at hl 0 rfl) ?_
  refine va_get (D := D) (ci := 11) (v := .int 0) (C := RX11) (T := TX11) (N := 18) hx hb hts iw_X11_sail_X11 hown hKX.1 hP 0 rfl rfl 15 (by decide) (hts (.fieldLink RX11 82 "TrainFerry" "sea" "I") (by decide +kernel)) (fun _ h9 => h9) rfl dX11_sail_29 ?_
  refine cl_i (wr := [(xc0 cy xh xq), (xc24 cy xh xq)]) (va_runV (As := [.int 0]) (rest := []) ⟨hx, hb, hml, hown, hts⟩ (c_chains l D cy (xq 33) (xq 34) (xq 35) (xq 36) (xq 37) _) (cwV 1 hts gX11_sail_X8_chainsNeeded rfl rfl rfl (by decide +kernel) ⟨(Nat.le_of_ble_eq_true rfl), (Nat.le_of_ble_eq_true rfl)⟩) (pre_V hKX hP hD (ci := 8) (q0 := 2) rfl rfl [2] rfl (by decide) rfl) rfl rfl hl.1 rfl (lv_room (Nat.le_of_ble_eq_true rfl)) dX11_sail_32 ⟨(Nat.le_of_ble_eq_true rfl), (Nat.le_of_ble_eq_true rfl)⟩) hP hD hS hA [2] [0, 1] rfl rfl (by decide) (by decide) (fun u1 H locs _ hP hD hS => ?_)
  have hP : va_P D vwCl [(xc0 cy xh xq), (xc24 cy xh xq), ((xq 33), .inr (8, [.ref (xq 34), .ref (xq 35), .ref (xq 36), .ref (xq 37), .int 0, .int 0, .int 0, .int 0, .int 100, .int 200]))] H := hP
  have hD : va_D A [(xc0 cy xh xq), (xc24 cy xh xq), ((xq 33), .inr (8, [.ref (xq 34), .ref (xq 35), .ref (xq 36), .ref (xq 37), .int 0, .int 0, .int 0, .int 0, .int 100, .int 200]))] := hD
  refine lv_aload_n hx hb dX11_sail_35 rfl (lv_at hl 0 rfl) ?_
  refine va_get (D := D) (ci := 11) (v := .int 100) (C := RX11) (T := TX11) (N := 18) hx hb hts iw_X11_sail_X11 hown hKX.1 hP 0 rfl rfl 17 (by decide) (hts (.fieldLink RX11 88 "TrainFerry" "chains" "I") (by decide +kernel)) (fun _ h9 => h9) rfl dX11_sail_36 ?_
  refine lv_icmp_le (tgt := 45) hx hb dX11_sail_39 (by decide) (fun _ => ?_) (fun c9 => absurd (by decide) c9)
  refine lv_aload_n hx hb dX11_sail_45 rfl (lv_at hl 0 rfl) ?_
  refine lv_iconst (v := 1) hx hb dX11_sail_46 (by decide) ?_
  refine lv_aload_n hx hb dX11_sail_47 rfl (lv_at hl 0 rfl) ?_
  refine va_get (D := D) (ci := 11) (v := .int 0) (C := RX11) (T := TX11) (N := 18) hx hb hts iw_X11_sail_X11 hown hKX.1 hP 0 rfl rfl 11 (by decide) (hts (.fieldLink RX11 70 "TrainFerry" "ferryAt" "I") (by decide +kernel)) (fun _ h9 => h9) rfl dX11_sail_48 ?_
  refine lv_isub hx hb dX11_sail_51 ?_
  refine lv_cst 1 (by decide) ?_
  refine va_put (D := D) (ci := 11) (v := .int 1) (ty := .int) (C := RX11) (T := TX11) (N := 18) hx hb hts iw_X11_sail_X11 tyX11 tyX11_ok nmX11 hown hKX.1 hP hD hS 0 rfl rfl 12 (by decide) (hts (.fieldLink RX11 73 "TrainFerry" "boundFor" "I") (by decide +kernel)) (fun _ h9 => h9) rfl (by decide +kernel) rfl rfl (Nat.le_of_ble_eq_true rfl) dX11_sail_52 (fun H locs hP hD hS => ?_)
  have hP : va_P D vwCl [(xh, .inr (11, [.ref (xq 0), .ref (xq 23), .ref (xq 38), .ref (xq 39), .ref (xq 42), .ref (xq 43), .null, .null, .int 0, .int 0, .int 0, .int 0, .int 1, .int (-1), .int 0, .int 0, .int 5, .int 100])), (xc24 cy xh xq), ((xq 33), .inr (8, [.ref (xq 34), .ref (xq 35), .ref (xq 36), .ref (xq 37), .int 0, .int 0, .int 0, .int 0, .int 100, .int 200]))] H := hP
  have hD : va_D A [(xh, .inr (11, [.ref (xq 0), .ref (xq 23), .ref (xq 38), .ref (xq 39), .ref (xq 42), .ref (xq 43), .null, .null, .int 0, .int 0, .int 0, .int 0, .int 1, .int (-1), .int 0, .int 0, .int 5, .int 100])), (xc24 cy xh xq), ((xq 33), .inr (8, [.ref (xq 34), .ref (xq 35), .ref (xq 36), .ref (xq 37), .int 0, .int 0, .int 0, .int 0, .int 100, .int 200]))] := hD
  refine lv_aload_n hx hb dX11_sail_55 rfl (lv_at hl 0 rfl) ?_
  refine lv_iconst (v := 2) hx hb dX11_sail_56 (by decide) ?_
  refine va_put (D := D) (ci := 11) (v := .int 2) (ty := .int) (C := RX11) (T := TX11) (N := 18) hx hb hts iw_X11_sail_X11 tyX11 tyX11_ok nmX11 hown hKX.1 hP hD hS 0 rfl rfl 11 (by decide) (hts (.fieldLink RX11 70 "TrainFerry" "ferryAt" "I") (by decide +kernel)) (fun _ h9 => h9) rfl (by decide +kernel) rfl rfl (Nat.le_of_ble_eq_true rfl) dX11_sail_57 (fun H locs hP hD hS => ?_)
  have hP : va_P D vwCl [(xh, .inr (11, [.ref (xq 0), .ref (xq 23), .ref (xq 38), .ref (xq 39), .ref (xq 42), .ref (xq 43), .null, .null, .int 0, .int 0, .int 0, .int 2, .int 1, .int (-1), .int 0, .int 0, .int 5, .int 100])), (xc24 cy xh xq), ((xq 33), .inr (8, [.ref (xq 34), .ref (xq 35), .ref (xq 36), .ref (xq 37), .int 0, .int 0, .int 0, .int 0, .int 100, .int 200]))] H := hP
  have hD : va_D A [(xh, .inr (11, [.ref (xq 0), .ref (xq 23), .ref (xq 38), .ref (xq 39), .ref (xq 42), .ref (xq 43), .null, .null, .int 0, .int 0, .int 0, .int 2, .int 1, .int (-1), .int 0, .int 0, .int 5, .int 100])), (xc24 cy xh xq), ((xq 33), .inr (8, [.ref (xq 34), .ref (xq 35), .ref (xq 36), .ref (xq 37), .int 0, .int 0, .int 0, .int 0, .int 100, .int 200]))] := hD
  refine lv_aload_n hx hb dX11_sail_60 rfl (lv_at hl 0 rfl) ?_
  refine lv_aload_n hx hb dX11_sail_61 rfl (lv_at hl 0 rfl) ?_
  refine va_get (D := D) (ci := 11) (v := .int 0) (C := RX11) (T := TX11) (N := 18) hx hb hts iw_X11_sail_X11 hown hKX.1 hP 0 rfl rfl 10 (by decide) (hts (.fieldLink RX11 67 "TrainFerry" "now" "I") (by decide +kernel)) (fun _ h9 => h9) rfl dX11_sail_62 ?_
  refine lv_bipush (v := 10) hx hb dX11_sail_65 (by decide) ?_
  refine lv_iadd hx hb dX11_sail_67 ?_
  refine lv_cst 10 (by decide) ?_
  refine lv_iconst (v := 3) hx hb dX11_sail_68 (by decide) ?_
  refine lv_aload_n hx hb dX11_sail_69 rfl (lv_at hl 0 rfl) ?_
  refine va_get (D := D) (ci := 11) (v := .int 0) (C := RX11) (T := TX11) (N := 18) hx hb hts iw_X11_sail_X11 hown hKX.1 hP 0 rfl rfl 15 (by decide) (hts (.fieldLink RX11 82 "TrainFerry" "sea" "I") (by decide +kernel)) (fun _ h9 => h9) rfl dX11_sail_70 ?_
  refine lv_imul hx hb dX11_sail_73 ?_
  refine lv_cst 0 (by decide) ?_
  refine lv_iadd hx hb dX11_sail_74 ?_
  refine lv_cst 10 (by decide) ?_
  refine va_put (D := D) (ci := 11) (v := .int 10) (ty := .int) (C := RX11) (T := TX11) (N := 18) hx hb hts iw_X11_sail_X11 tyX11 tyX11_ok nmX11 hown hKX.1 hP hD hS 0 rfl rfl 13 (by decide) (hts (.fieldLink RX11 76 "TrainFerry" "arrival" "I") (by decide +kernel)) (fun _ h9 => h9) rfl (by decide +kernel) rfl rfl (Nat.le_of_ble_eq_true rfl) dX11_sail_75 (fun H locs hP hD hS => ?_)
  have hP : va_P D vwCl [(xh, .inr (11, [.ref (xq 0), .ref (xq 23), .ref (xq 38), .ref (xq 39), .ref (xq 42), .ref (xq 43), .null, .null, .int 0, .int 0, .int 0, .int 2, .int 1, .int 10, .int 0, .int 0, .int 5, .int 100])), (xc24 cy xh xq), ((xq 33), .inr (8, [.ref (xq 34), .ref (xq 35), .ref (xq 36), .ref (xq 37), .int 0, .int 0, .int 0, .int 0, .int 100, .int 200]))] H := hP
  have hD : va_D A [(xh, .inr (11, [.ref (xq 0), .ref (xq 23), .ref (xq 38), .ref (xq 39), .ref (xq 42), .ref (xq 43), .null, .null, .int 0, .int 0, .int 0, .int 2, .int 1, .int 10, .int 0, .int 0, .int 5, .int 100])), (xc24 cy xh xq), ((xq 33), .inr (8, [.ref (xq 34), .ref (xq 35), .ref (xq 36), .ref (xq 37), .int 0, .int 0, .int 0, .int 0, .int 100, .int 200]))] := hD
  refine lv_aload_n hx hb dX11_sail_78 rfl (lv_at hl 0 rfl) ?_
  refine lv_dup hx hb dX11_sail_79 rfl ?_
  refine va_get (D := D) (ci := 11) (v := .int 0) (C := RX11) (T := TX11) (N := 18) hx hb hts iw_X11_sail_X11 hown hKX.1 hP 0 rfl rfl 14 (by decide) (hts (.fieldLink RX11 79 "TrainFerry" "sailings" "I") (by decide +kernel)) (fun _ h9 => h9) rfl dX11_sail_80 ?_
  refine lv_iconst (v := 1) hx hb dX11_sail_83 (by decide) ?_
  refine lv_iadd hx hb dX11_sail_84 ?_
  refine lv_cst 1 (by decide) ?_
  refine va_put (D := D) (ci := 11) (v := .int 1) (ty := .int) (C := RX11) (T := TX11) (N := 18) hx hb hts iw_X11_sail_X11 tyX11 tyX11_ok nmX11 hown hKX.1 hP hD hS 0 rfl rfl 14 (by decide) (hts (.fieldLink RX11 79 "TrainFerry" "sailings" "I") (by decide +kernel)) (fun _ h9 => h9) rfl (by decide +kernel) rfl rfl (Nat.le_of_ble_eq_true rfl) dX11_sail_85 (fun H locs hP hD hS => ?_)
  have hP : va_P D vwCl [(xh, .inr (11, [.ref (xq 0), .ref (xq 23), .ref (xq 38), .ref (xq 39), .ref (xq 42), .ref (xq 43), .null, .null, .int 0, .int 0, .int 0, .int 2, .int 1, .int 10, .int 1, .int 0, .int 5, .int 100])), (xc24 cy xh xq), ((xq 33), .inr (8, [.ref (xq 34), .ref (xq 35), .ref (xq 36), .ref (xq 37), .int 0, .int 0, .int 0, .int 0, .int 100, .int 200]))] H := hP
  have hD : va_D A [(xh, .inr (11, [.ref (xq 0), .ref (xq 23), .ref (xq 38), .ref (xq 39), .ref (xq 42), .ref (xq 43), .null, .null, .int 0, .int 0, .int 0, .int 2, .int 1, .int 10, .int 1, .int 0, .int 5, .int 100])), (xc24 cy xh xq), ((xq 33), .inr (8, [.ref (xq 34), .ref (xq 35), .ref (xq 36), .ref (xq 37), .int 0, .int 0, .int 0, .int 0, .int 100, .int 200]))] := hD
  refine lv_aload_n hx hb dX11_sail_88 rfl (lv_at hl 0 rfl) ?_
  refine va_get (D := D) (ci := 11) (v := .int 10) (C := RX11) (T := TX11) (N := 18) hx hb hts iw_X11_sail_X11 hown hKX.1 hP 0 rfl rfl 13 (by decide) (hts (.fieldLink RX11 76 "TrainFerry" "arrival" "I") (by decide +kernel)) (fun _ h9 => h9) rfl dX11_sail_89 ?_
  exact en_i hx hb hr hlocks () rfl trivial (hP.sub [] rfl) (hD.sub [] (by decide) rfl) hS (Nat.le_of_ble_eq_true rfl) (Nat.le_of_ble_eq_true rfl) dX11_sail_92
theorem iw_X11_step_X11 : ∀ w ∈ wsX110, w ∈ wsX11_step := by decide +kernel
set_option maxHeartbeats 4000000 in
set_option maxRecDepth 100000 in
theorem c_step (l : Launch) (D : va_G) (cy : Nat → ClassId) (xh : Nat) (xq : Nat → Nat) (xi : Int32) (xk : Int32) (sz : Nat) : Met l yX11_step wsX11_step ({ frames := 0, cells := 0, slots := 0, locals := 0 }) (wPre D cy [.ref xh, .int xi, .int xk] sz [(xc0 cy xh xq)]) (wQi D (-1) (fun _ : Unit => True) (fun _u : Unit => []) (va_A [(xc0 cy xh xq)] sz)) 0 0 (va_A [(xc0 cy xh xq)] sz) := by
  refine met_go (y := yX11_step) (ws := wsX11_step) (av := [.ref xh, .int xi, .int xk]) (cc := cX11_step) (maxL := 3) (ret := (some .int)) (Qc := fun A => wQi D (-1) (fun _ : Unit => True) (fun _u : Unit => []) A) (by decide) rfl (Nat.le_of_ble_eq_true rfl) ?_
  intro p e s m below meth c ls A hx hb hr hml hown hts hlocks hname hKX hP hD hA hS hl
  have hown : s.vm.findClass RX11 = some m.cls := hown
  have hl : lv_has ls 3 [(0, .ref xh), (1, .int xi), (2, .int xk)] := hl
  refine lv_aload_n hx hb dX11_step_0 rfl (lv_at hl 0 rfl) ?_
  refine va_get (D := D) (ci := 11) (v := .null) (C := RX11) (T := TX11) (N := 18) hx hb hts iw_X11_step_X11 hown hKX.1 hP 0 rfl rfl 6 (by decide) (hts (.fieldLink RX11 51 "TrainFerry" "loadings" "LTrainFerry$LoadingSearch;") (by decide +kernel)) (fun _ h9 => h9) rfl dX11_step_1 ?_
  refine lv_ifnullN (tgt := 24) hx hb dX11_step_4 (by decide) ?_
  refine lv_iconst (v := (-1)) hx hb dX11_step_24 (by decide) ?_
  exact en_i hx hb hr hlocks () rfl trivial (hP.sub [] rfl) (hD.sub [] (by decide) rfl) hS (Nat.le_of_ble_eq_true rfl) (Nat.le_of_ble_eq_true rfl) dX11_step_25
set_option maxHeartbeats 4000000 in
set_option maxRecDepth 100000 in
theorem c_numberOf (l : Launch) (D : va_G) (cy : Nat → ClassId)  (sz : Nat) : Met l yX11_numberOf wsX11_numberOf ({ frames := 0, cells := 0, slots := 0, locals := 0 }) (wPre D cy [.null] sz []) (wQi D (-1) (fun _ : Unit => True) (fun _u : Unit => []) (va_A [] sz)) 0 0 (va_A [] sz) := by
  refine met_go (y := yX11_numberOf) (ws := wsX11_numberOf) (av := [.null]) (cc := cX11_numberOf) (maxL := 1) (ret := (some .int)) (Qc := fun A => wQi D (-1) (fun _ : Unit => True) (fun _u : Unit => []) A) (by decide) rfl (Nat.le_of_ble_eq_true rfl) ?_
  intro p e s m below meth c ls A hx hb hr hml hown hts hlocks hname hKX hP hD hA hS hl
  have hown : s.vm.findClass RX11 = some m.cls := hown
  have hl : lv_has ls 1 [(0, .null)] := hl
  refine lv_aload_nN hx hb dX11_numberOf_0 rfl (lv_at hl 0 rfl) ?_
  refine lv_ifnonnullN hx hb dX11_numberOf_1 ?_
  refine lv_iconst (v := (-1)) hx hb dX11_numberOf_4 (by decide) ?_
  refine lv_goto (tgt := 12) hx hb dX11_numberOf_5 (by decide) ?_
  exact en_i hx hb hr hlocks () rfl trivial (hP.sub [] rfl) (hD.sub [] (by decide) rfl) hS (Nat.le_of_ble_eq_true rfl) (Nat.le_of_ble_eq_true rfl) dX11_numberOf_12
theorem iw_X11_deck_X11 : ∀ w ∈ wsX110, w ∈ wsX11_deck := by decide +kernel
theorem iw_X11_deck_X2 : ∀ w ∈ wsX20, w ∈ wsX11_deck := by decide +kernel
set_option maxHeartbeats 4000000 in
set_option maxRecDepth 100000 in
theorem c_deck (l : Launch) (D : va_G) (cy : Nat → ClassId) (xh : Nat) (xq : Nat → Nat) (xd : Int32) (xi : Int32) (sz : Nat) : Met l yX11_deck wsX11_deck ({ frames := 2, cells := 0, slots := 0, locals := 43 }) (wPre D cy [.ref xh, .int xd, .int xi] sz [(xc0 cy xh xq), (xc24 cy xh xq), (xc25 cy xh xq), (xc26 cy xh xq), (xc28 cy xh xq), (xc30 cy xh xq), (xc32 cy xh xq)]) (wQi D (-1) (fun _ : Unit => True) (fun _u : Unit => []) (va_A [(xc0 cy xh xq), (xc24 cy xh xq), (xc25 cy xh xq), (xc26 cy xh xq), (xc28 cy xh xq), (xc30 cy xh xq), (xc32 cy xh xq)] sz)) 0 0 (va_A [(xc0 cy xh xq), (xc24 cy xh xq), (xc25 cy xh xq), (xc26 cy xh xq), (xc28 cy xh xq), (xc30 cy xh xq), (xc32 cy xh xq)] sz) := by
  refine met_go (y := yX11_deck) (ws := wsX11_deck) (av := [.ref xh, .int xd, .int xi]) (cc := cX11_deck) (maxL := 3) (ret := (some .int)) (Qc := fun A => wQi D (-1) (fun _ : Unit => True) (fun _u : Unit => []) A) (by decide) rfl (Nat.le_of_ble_eq_true rfl) ?_
  intro p e s m below meth c ls A hx hb hr hml hown hts hlocks hname hKX hP hD hA hS hl
  have hown : s.vm.findClass RX11 = some m.cls := hown
  have hl : lv_has ls 3 [(0, .ref xh), (1, .int xd), (2, .int xi)] := hl
  rcases sp4 xd with rfl | rfl | rfl | rfl | o1
  · refine lv_iload_n hx hb dX11_deck_0 rfl (lv_at hl 1 rfl) ?_
    refine cl_i (wr := [(xc0 cy xh xq), (xc24 cy xh xq), (xc25 cy xh xq), (xc26 cy xh xq), (xc28 cy xh xq), (xc30 cy xh xq), (xc32 cy xh xq)]) (va_runS (As := [.int 0]) (rest := []) ⟨hx, hb, hml, hown, hts⟩ (c_isDeckTrack l D cy 0 _) (va_cwS 1 hts gX11_deck_X11_isDeckTrack rfl rfl rfl (by decide +kernel) ⟨(Nat.le_of_ble_eq_true rfl), (Nat.le_of_ble_eq_true rfl)⟩) (pre_S hKX hP hD [] rfl (by decide) rfl) rfl rfl hl.1 rfl (lv_room (Nat.le_of_ble_eq_true rfl)) dX11_deck_1 ⟨(Nat.le_of_ble_eq_true rfl), (Nat.le_of_ble_eq_true rfl)⟩) hP hD hS hA [] [0, 1, 2, 3, 4, 5, 6] rfl rfl (by decide) (by decide) (fun u2 H locs _ hP hD hS => ?_)
    have hP : va_P D vwCl [(xc0 cy xh xq), (xc24 cy xh xq), (xc25 cy xh xq), (xc26 cy xh xq), (xc28 cy xh xq), (xc30 cy xh xq), (xc32 cy xh xq)] H := hP
    have hD : va_D A [(xc0 cy xh xq), (xc24 cy xh xq), (xc25 cy xh xq), (xc26 cy xh xq), (xc28 cy xh xq), (xc30 cy xh xq), (xc32 cy xh xq)] := hD
    refine lv_cst 1 (by decide) ?_
    refine lv_if_eq (tgt := 26) hx hb dX11_deck_4 (by decide) (fun c9 => absurd c9 (by decide)) (fun _ => ?_)
    refine lv_aload_n hx hb dX11_deck_7 rfl (lv_at hl 0 rfl) ?_
    refine va_get (D := D) (ci := 11) (v := .ref (xq 23)) (C := RX11) (T := TX11) (N := 18) hx hb hts iw_X11_deck_X11 hown hKX.1 hP 0 rfl rfl 1 (by decide) (hts (.fieldLink RX11 19 "TrainFerry" "deck" "LTrainFerry$Deck;") (by decide +kernel)) (fun _ h9 => h9) rfl dX11_deck_8 ?_
    refine va_get (D := D) (ci := 2) (v := .ref (xq 24)) (C := RX2) (T := TX2) (N := 2) hx hb hts iw_X11_deck_X2 hown hKX.1 hP 1 rfl rfl 0 (by decide) (hts (.fieldLink RX11 282 "TrainFerry$Deck" "rows" "[LTrainFerry$Row;") (by decide +kernel)) (fun _ h9 => h9) rfl dX11_deck_11 ?_
    refine lv_iload_n hx hb dX11_deck_14 rfl (lv_at hl 1 rfl) ?_
    refine va_aldq hx hb hKX.1 hP 2 4 rfl rfl (vind (by decide)) dX11_deck_15 ?_
    refine lv_csv (.ref (xq 25)) rfl ?_
    refine lv_iload_n hx hb dX11_deck_16 rfl (lv_at hl 2 rfl) ?_
    refine cl_q (wr := [(xc0 cy xh xq), (xc24 cy xh xq), (xc25 cy xh xq), (xc28 cy xh xq), (xc30 cy xh xq), (xc32 cy xh xq)]) (va_runV (As := [.int xi]) (rest := []) ⟨hx, hb, hml, hown, hts⟩ (c_wagonAt l D cy (xq 25) (xq 26) xi _) (cwV 1 hts gX11_deck_X5_wagonAt rfl rfl rfl (by decide +kernel) ⟨(Nat.le_of_ble_eq_true rfl), (Nat.le_of_ble_eq_true rfl)⟩) (pre_V hKX hP hD (ci := 5) (q0 := 3) rfl rfl [3] rfl (by decide) rfl) rfl rfl hl.1 rfl (lv_room (Nat.le_of_ble_eq_true rfl)) dX11_deck_17 ⟨(Nat.le_of_ble_eq_true rfl), (Nat.le_of_ble_eq_true rfl)⟩) hP hD hS hA [3] [0, 1, 2, 4, 5, 6] rfl rfl (by decide) (by decide) (fun u3 H locs _ hP hD hS => ?_)
    have hP : va_P D vwCl [(xc0 cy xh xq), (xc24 cy xh xq), (xc25 cy xh xq), (xc28 cy xh xq), (xc30 cy xh xq), (xc32 cy xh xq), ((xq 25), .inr (5, [.ref (xq 26), .int 0, .int 0]))] H := hP
    have hD : va_D A [(xc0 cy xh xq), (xc24 cy xh xq), (xc25 cy xh xq), (xc28 cy xh xq), (xc30 cy xh xq), (xc32 cy xh xq), ((xq 25), .inr (5, [.ref (xq 26), .int 0, .int 0]))] := hD
    refine lv_csv (.null) rfl ?_
    refine cl_i (wr := [(xc0 cy xh xq), (xc24 cy xh xq), (xc25 cy xh xq), (xc28 cy xh xq), (xc30 cy xh xq), (xc32 cy xh xq), ((xq 25), .inr (5, [.ref (xq 26), .int 0, .int 0]))]) (va_runS (As := [.null]) (rest := []) ⟨hx, hb, hml, hown, hts⟩ (c_numberOf l D cy  _) (va_cwS 1 hts gX11_deck_X11_numberOf rfl rfl rfl (by decide +kernel) ⟨(Nat.le_of_ble_eq_true rfl), (Nat.le_of_ble_eq_true rfl)⟩) (pre_S hKX hP hD [] rfl (by decide) rfl) rfl rfl hl.1 rfl (lv_room (Nat.le_of_ble_eq_true rfl)) dX11_deck_20 ⟨(Nat.le_of_ble_eq_true rfl), (Nat.le_of_ble_eq_true rfl)⟩) hP hD hS hA [] [0, 1, 2, 3, 4, 5, 6] rfl rfl (by decide) (by decide) (fun u4 H locs _ hP hD hS => ?_)
    have hP : va_P D vwCl [(xc0 cy xh xq), (xc24 cy xh xq), (xc25 cy xh xq), (xc28 cy xh xq), (xc30 cy xh xq), (xc32 cy xh xq), ((xq 25), .inr (5, [.ref (xq 26), .int 0, .int 0]))] H := hP
    have hD : va_D A [(xc0 cy xh xq), (xc24 cy xh xq), (xc25 cy xh xq), (xc28 cy xh xq), (xc30 cy xh xq), (xc32 cy xh xq), ((xq 25), .inr (5, [.ref (xq 26), .int 0, .int 0]))] := hD
    refine lv_goto (tgt := 27) hx hb dX11_deck_23 (by decide) ?_
    exact en_i hx hb hr hlocks () rfl trivial (hP.sub [] rfl) (hD.sub [] (by decide) rfl) hS (Nat.le_of_ble_eq_true rfl) (Nat.le_of_ble_eq_true rfl) dX11_deck_27
  · refine lv_iload_n hx hb dX11_deck_0 rfl (lv_at hl 1 rfl) ?_
    refine cl_i (wr := [(xc0 cy xh xq), (xc24 cy xh xq), (xc25 cy xh xq), (xc26 cy xh xq), (xc28 cy xh xq), (xc30 cy xh xq), (xc32 cy xh xq)]) (va_runS (As := [.int 1]) (rest := []) ⟨hx, hb, hml, hown, hts⟩ (c_isDeckTrack l D cy 1 _) (va_cwS 1 hts gX11_deck_X11_isDeckTrack rfl rfl rfl (by decide +kernel) ⟨(Nat.le_of_ble_eq_true rfl), (Nat.le_of_ble_eq_true rfl)⟩) (pre_S hKX hP hD [] rfl (by decide) rfl) rfl rfl hl.1 rfl (lv_room (Nat.le_of_ble_eq_true rfl)) dX11_deck_1 ⟨(Nat.le_of_ble_eq_true rfl), (Nat.le_of_ble_eq_true rfl)⟩) hP hD hS hA [] [0, 1, 2, 3, 4, 5, 6] rfl rfl (by decide) (by decide) (fun u5 H locs _ hP hD hS => ?_)
    have hP : va_P D vwCl [(xc0 cy xh xq), (xc24 cy xh xq), (xc25 cy xh xq), (xc26 cy xh xq), (xc28 cy xh xq), (xc30 cy xh xq), (xc32 cy xh xq)] H := hP
    have hD : va_D A [(xc0 cy xh xq), (xc24 cy xh xq), (xc25 cy xh xq), (xc26 cy xh xq), (xc28 cy xh xq), (xc30 cy xh xq), (xc32 cy xh xq)] := hD
    refine lv_cst 1 (by decide) ?_
    refine lv_if_eq (tgt := 26) hx hb dX11_deck_4 (by decide) (fun c9 => absurd c9 (by decide)) (fun _ => ?_)
    refine lv_aload_n hx hb dX11_deck_7 rfl (lv_at hl 0 rfl) ?_
    refine va_get (D := D) (ci := 11) (v := .ref (xq 23)) (C := RX11) (T := TX11) (N := 18) hx hb hts iw_X11_deck_X11 hown hKX.1 hP 0 rfl rfl 1 (by decide) (hts (.fieldLink RX11 19 "TrainFerry" "deck" "LTrainFerry$Deck;") (by decide +kernel)) (fun _ h9 => h9) rfl dX11_deck_8 ?_
    refine va_get (D := D) (ci := 2) (v := .ref (xq 24)) (C := RX2) (T := TX2) (N := 2) hx hb hts iw_X11_deck_X2 hown hKX.1 hP 1 rfl rfl 0 (by decide) (hts (.fieldLink RX11 282 "TrainFerry$Deck" "rows" "[LTrainFerry$Row;") (by decide +kernel)) (fun _ h9 => h9) rfl dX11_deck_11 ?_
    refine lv_iload_n hx hb dX11_deck_14 rfl (lv_at hl 1 rfl) ?_
    refine va_aldq hx hb hKX.1 hP 2 4 rfl rfl (vind (by decide)) dX11_deck_15 ?_
    refine lv_csv (.ref (xq 27)) rfl ?_
    refine lv_iload_n hx hb dX11_deck_16 rfl (lv_at hl 2 rfl) ?_
    refine cl_q (wr := [(xc0 cy xh xq), (xc24 cy xh xq), (xc25 cy xh xq), (xc26 cy xh xq), (xc30 cy xh xq), (xc32 cy xh xq)]) (va_runV (As := [.int xi]) (rest := []) ⟨hx, hb, hml, hown, hts⟩ (c_wagonAt l D cy (xq 27) (xq 28) xi _) (cwV 1 hts gX11_deck_X5_wagonAt rfl rfl rfl (by decide +kernel) ⟨(Nat.le_of_ble_eq_true rfl), (Nat.le_of_ble_eq_true rfl)⟩) (pre_V hKX hP hD (ci := 5) (q0 := 4) rfl rfl [4] rfl (by decide) rfl) rfl rfl hl.1 rfl (lv_room (Nat.le_of_ble_eq_true rfl)) dX11_deck_17 ⟨(Nat.le_of_ble_eq_true rfl), (Nat.le_of_ble_eq_true rfl)⟩) hP hD hS hA [4] [0, 1, 2, 3, 5, 6] rfl rfl (by decide) (by decide) (fun u6 H locs _ hP hD hS => ?_)
    have hP : va_P D vwCl [(xc0 cy xh xq), (xc24 cy xh xq), (xc25 cy xh xq), (xc26 cy xh xq), (xc30 cy xh xq), (xc32 cy xh xq), ((xq 27), .inr (5, [.ref (xq 28), .int 0, .int 0]))] H := hP
    have hD : va_D A [(xc0 cy xh xq), (xc24 cy xh xq), (xc25 cy xh xq), (xc26 cy xh xq), (xc30 cy xh xq), (xc32 cy xh xq), ((xq 27), .inr (5, [.ref (xq 28), .int 0, .int 0]))] := hD
    refine lv_csv (.null) rfl ?_
    refine cl_i (wr := [(xc0 cy xh xq), (xc24 cy xh xq), (xc25 cy xh xq), (xc26 cy xh xq), (xc30 cy xh xq), (xc32 cy xh xq), ((xq 27), .inr (5, [.ref (xq 28), .int 0, .int 0]))]) (va_runS (As := [.null]) (rest := []) ⟨hx, hb, hml, hown, hts⟩ (c_numberOf l D cy  _) (va_cwS 1 hts gX11_deck_X11_numberOf rfl rfl rfl (by decide +kernel) ⟨(Nat.le_of_ble_eq_true rfl), (Nat.le_of_ble_eq_true rfl)⟩) (pre_S hKX hP hD [] rfl (by decide) rfl) rfl rfl hl.1 rfl (lv_room (Nat.le_of_ble_eq_true rfl)) dX11_deck_20 ⟨(Nat.le_of_ble_eq_true rfl), (Nat.le_of_ble_eq_true rfl)⟩) hP hD hS hA [] [0, 1, 2, 3, 4, 5, 6] rfl rfl (by decide) (by decide) (fun u7 H locs _ hP hD hS => ?_)
    have hP : va_P D vwCl [(xc0 cy xh xq), (xc24 cy xh xq), (xc25 cy xh xq), (xc26 cy xh xq), (xc30 cy xh xq), (xc32 cy xh xq), ((xq 27), .inr (5, [.ref (xq 28), .int 0, .int 0]))] H := hP
    have hD : va_D A [(xc0 cy xh xq), (xc24 cy xh xq), (xc25 cy xh xq), (xc26 cy xh xq), (xc30 cy xh xq), (xc32 cy xh xq), ((xq 27), .inr (5, [.ref (xq 28), .int 0, .int 0]))] := hD
    refine lv_goto (tgt := 27) hx hb dX11_deck_23 (by decide) ?_
    exact en_i hx hb hr hlocks () rfl trivial (hP.sub [] rfl) (hD.sub [] (by decide) rfl) hS (Nat.le_of_ble_eq_true rfl) (Nat.le_of_ble_eq_true rfl) dX11_deck_27
  · refine lv_iload_n hx hb dX11_deck_0 rfl (lv_at hl 1 rfl) ?_
    refine cl_i (wr := [(xc0 cy xh xq), (xc24 cy xh xq), (xc25 cy xh xq), (xc26 cy xh xq), (xc28 cy xh xq), (xc30 cy xh xq), (xc32 cy xh xq)]) (va_runS (As := [.int 2]) (rest := []) ⟨hx, hb, hml, hown, hts⟩ (c_isDeckTrack l D cy 2 _) (va_cwS 1 hts gX11_deck_X11_isDeckTrack rfl rfl rfl (by decide +kernel) ⟨(Nat.le_of_ble_eq_true rfl), (Nat.le_of_ble_eq_true rfl)⟩) (pre_S hKX hP hD [] rfl (by decide) rfl) rfl rfl hl.1 rfl (lv_room (Nat.le_of_ble_eq_true rfl)) dX11_deck_1 ⟨(Nat.le_of_ble_eq_true rfl), (Nat.le_of_ble_eq_true rfl)⟩) hP hD hS hA [] [0, 1, 2, 3, 4, 5, 6] rfl rfl (by decide) (by decide) (fun u8 H locs _ hP hD hS => ?_)
    have hP : va_P D vwCl [(xc0 cy xh xq), (xc24 cy xh xq), (xc25 cy xh xq), (xc26 cy xh xq), (xc28 cy xh xq), (xc30 cy xh xq), (xc32 cy xh xq)] H := hP
    have hD : va_D A [(xc0 cy xh xq), (xc24 cy xh xq), (xc25 cy xh xq), (xc26 cy xh xq), (xc28 cy xh xq), (xc30 cy xh xq), (xc32 cy xh xq)] := hD
    refine lv_cst 1 (by decide) ?_
    refine lv_if_eq (tgt := 26) hx hb dX11_deck_4 (by decide) (fun c9 => absurd c9 (by decide)) (fun _ => ?_)
    refine lv_aload_n hx hb dX11_deck_7 rfl (lv_at hl 0 rfl) ?_
    refine va_get (D := D) (ci := 11) (v := .ref (xq 23)) (C := RX11) (T := TX11) (N := 18) hx hb hts iw_X11_deck_X11 hown hKX.1 hP 0 rfl rfl 1 (by decide) (hts (.fieldLink RX11 19 "TrainFerry" "deck" "LTrainFerry$Deck;") (by decide +kernel)) (fun _ h9 => h9) rfl dX11_deck_8 ?_
    refine va_get (D := D) (ci := 2) (v := .ref (xq 24)) (C := RX2) (T := TX2) (N := 2) hx hb hts iw_X11_deck_X2 hown hKX.1 hP 1 rfl rfl 0 (by decide) (hts (.fieldLink RX11 282 "TrainFerry$Deck" "rows" "[LTrainFerry$Row;") (by decide +kernel)) (fun _ h9 => h9) rfl dX11_deck_11 ?_
    refine lv_iload_n hx hb dX11_deck_14 rfl (lv_at hl 1 rfl) ?_
    refine va_aldq hx hb hKX.1 hP 2 4 rfl rfl (vind (by decide)) dX11_deck_15 ?_
    refine lv_csv (.ref (xq 29)) rfl ?_
    refine lv_iload_n hx hb dX11_deck_16 rfl (lv_at hl 2 rfl) ?_
    refine cl_q (wr := [(xc0 cy xh xq), (xc24 cy xh xq), (xc25 cy xh xq), (xc26 cy xh xq), (xc28 cy xh xq), (xc32 cy xh xq)]) (va_runV (As := [.int xi]) (rest := []) ⟨hx, hb, hml, hown, hts⟩ (c_wagonAt l D cy (xq 29) (xq 30) xi _) (cwV 1 hts gX11_deck_X5_wagonAt rfl rfl rfl (by decide +kernel) ⟨(Nat.le_of_ble_eq_true rfl), (Nat.le_of_ble_eq_true rfl)⟩) (pre_V hKX hP hD (ci := 5) (q0 := 5) rfl rfl [5] rfl (by decide) rfl) rfl rfl hl.1 rfl (lv_room (Nat.le_of_ble_eq_true rfl)) dX11_deck_17 ⟨(Nat.le_of_ble_eq_true rfl), (Nat.le_of_ble_eq_true rfl)⟩) hP hD hS hA [5] [0, 1, 2, 3, 4, 6] rfl rfl (by decide) (by decide) (fun u9 H locs _ hP hD hS => ?_)
    have hP : va_P D vwCl [(xc0 cy xh xq), (xc24 cy xh xq), (xc25 cy xh xq), (xc26 cy xh xq), (xc28 cy xh xq), (xc32 cy xh xq), ((xq 29), .inr (5, [.ref (xq 30), .int 0, .int 0]))] H := hP
    have hD : va_D A [(xc0 cy xh xq), (xc24 cy xh xq), (xc25 cy xh xq), (xc26 cy xh xq), (xc28 cy xh xq), (xc32 cy xh xq), ((xq 29), .inr (5, [.ref (xq 30), .int 0, .int 0]))] := hD
    refine lv_csv (.null) rfl ?_
    refine cl_i (wr := [(xc0 cy xh xq), (xc24 cy xh xq), (xc25 cy xh xq), (xc26 cy xh xq), (xc28 cy xh xq), (xc32 cy xh xq), ((xq 29), .inr (5, [.ref (xq 30), .int 0, .int 0]))]) (va_runS (As := [.null]) (rest := []) ⟨hx, hb, hml, hown, hts⟩ (c_numberOf l D cy  _) (va_cwS 1 hts gX11_deck_X11_numberOf rfl rfl rfl (by decide +kernel) ⟨(Nat.le_of_ble_eq_true rfl), (Nat.le_of_ble_eq_true rfl)⟩) (pre_S hKX hP hD [] rfl (by decide) rfl) rfl rfl hl.1 rfl (lv_room (Nat.le_of_ble_eq_true rfl)) dX11_deck_20 ⟨(Nat.le_of_ble_eq_true rfl), (Nat.le_of_ble_eq_true rfl)⟩) hP hD hS hA [] [0, 1, 2, 3, 4, 5, 6] rfl rfl (by decide) (by decide) (fun u10 H locs _ hP hD hS => ?_)
    have hP : va_P D vwCl [(xc0 cy xh xq), (xc24 cy xh xq), (xc25 cy xh xq), (xc26 cy xh xq), (xc28 cy xh xq), (xc32 cy xh xq), ((xq 29), .inr (5, [.ref (xq 30), .int 0, .int 0]))] H := hP
    have hD : va_D A [(xc0 cy xh xq), (xc24 cy xh xq), (xc25 cy xh xq), (xc26 cy xh xq), (xc28 cy xh xq), (xc32 cy xh xq), ((xq 29), .inr (5, [.ref (xq 30), .int 0, .int 0]))] := hD
    refine lv_goto (tgt := 27) hx hb dX11_deck_23 (by decide) ?_
    exact en_i hx hb hr hlocks () rfl trivial (hP.sub [] rfl) (hD.sub [] (by decide) rfl) hS (Nat.le_of_ble_eq_true rfl) (Nat.le_of_ble_eq_true rfl) dX11_deck_27
  · refine lv_iload_n hx hb dX11_deck_0 rfl (lv_at hl 1 rfl) ?_
    refine cl_i (wr := [(xc0 cy xh xq), (xc24 cy xh xq), (xc25 cy xh xq), (xc26 cy xh xq), (xc28 cy xh xq), (xc30 cy xh xq), (xc32 cy xh xq)]) (va_runS (As := [.int 3]) (rest := []) ⟨hx, hb, hml, hown, hts⟩ (c_isDeckTrack l D cy 3 _) (va_cwS 1 hts gX11_deck_X11_isDeckTrack rfl rfl rfl (by decide +kernel) ⟨(Nat.le_of_ble_eq_true rfl), (Nat.le_of_ble_eq_true rfl)⟩) (pre_S hKX hP hD [] rfl (by decide) rfl) rfl rfl hl.1 rfl (lv_room (Nat.le_of_ble_eq_true rfl)) dX11_deck_1 ⟨(Nat.le_of_ble_eq_true rfl), (Nat.le_of_ble_eq_true rfl)⟩) hP hD hS hA [] [0, 1, 2, 3, 4, 5, 6] rfl rfl (by decide) (by decide) (fun u11 H locs _ hP hD hS => ?_)
    have hP : va_P D vwCl [(xc0 cy xh xq), (xc24 cy xh xq), (xc25 cy xh xq), (xc26 cy xh xq), (xc28 cy xh xq), (xc30 cy xh xq), (xc32 cy xh xq)] H := hP
    have hD : va_D A [(xc0 cy xh xq), (xc24 cy xh xq), (xc25 cy xh xq), (xc26 cy xh xq), (xc28 cy xh xq), (xc30 cy xh xq), (xc32 cy xh xq)] := hD
    refine lv_cst 1 (by decide) ?_
    refine lv_if_eq (tgt := 26) hx hb dX11_deck_4 (by decide) (fun c9 => absurd c9 (by decide)) (fun _ => ?_)
    refine lv_aload_n hx hb dX11_deck_7 rfl (lv_at hl 0 rfl) ?_
    refine va_get (D := D) (ci := 11) (v := .ref (xq 23)) (C := RX11) (T := TX11) (N := 18) hx hb hts iw_X11_deck_X11 hown hKX.1 hP 0 rfl rfl 1 (by decide) (hts (.fieldLink RX11 19 "TrainFerry" "deck" "LTrainFerry$Deck;") (by decide +kernel)) (fun _ h9 => h9) rfl dX11_deck_8 ?_
    refine va_get (D := D) (ci := 2) (v := .ref (xq 24)) (C := RX2) (T := TX2) (N := 2) hx hb hts iw_X11_deck_X2 hown hKX.1 hP 1 rfl rfl 0 (by decide) (hts (.fieldLink RX11 282 "TrainFerry$Deck" "rows" "[LTrainFerry$Row;") (by decide +kernel)) (fun _ h9 => h9) rfl dX11_deck_11 ?_
    refine lv_iload_n hx hb dX11_deck_14 rfl (lv_at hl 1 rfl) ?_
    refine va_aldq hx hb hKX.1 hP 2 4 rfl rfl (vind (by decide)) dX11_deck_15 ?_
    refine lv_csv (.ref (xq 31)) rfl ?_
    refine lv_iload_n hx hb dX11_deck_16 rfl (lv_at hl 2 rfl) ?_
    refine cl_q (wr := [(xc0 cy xh xq), (xc24 cy xh xq), (xc25 cy xh xq), (xc26 cy xh xq), (xc28 cy xh xq), (xc30 cy xh xq)]) (va_runV (As := [.int xi]) (rest := []) ⟨hx, hb, hml, hown, hts⟩ (c_wagonAt l D cy (xq 31) (xq 32) xi _) (cwV 1 hts gX11_deck_X5_wagonAt rfl rfl rfl (by decide +kernel) ⟨(Nat.le_of_ble_eq_true rfl), (Nat.le_of_ble_eq_true rfl)⟩) (pre_V hKX hP hD (ci := 5) (q0 := 6) rfl rfl [6] rfl (by decide) rfl) rfl rfl hl.1 rfl (lv_room (Nat.le_of_ble_eq_true rfl)) dX11_deck_17 ⟨(Nat.le_of_ble_eq_true rfl), (Nat.le_of_ble_eq_true rfl)⟩) hP hD hS hA [6] [0, 1, 2, 3, 4, 5] rfl rfl (by decide) (by decide) (fun u12 H locs _ hP hD hS => ?_)
    have hP : va_P D vwCl [(xc0 cy xh xq), (xc24 cy xh xq), (xc25 cy xh xq), (xc26 cy xh xq), (xc28 cy xh xq), (xc30 cy xh xq), ((xq 31), .inr (5, [.ref (xq 32), .int 0, .int 0]))] H := hP
    have hD : va_D A [(xc0 cy xh xq), (xc24 cy xh xq), (xc25 cy xh xq), (xc26 cy xh xq), (xc28 cy xh xq), (xc30 cy xh xq), ((xq 31), .inr (5, [.ref (xq 32), .int 0, .int 0]))] := hD
    refine lv_csv (.null) rfl ?_
    refine cl_i (wr := [(xc0 cy xh xq), (xc24 cy xh xq), (xc25 cy xh xq), (xc26 cy xh xq), (xc28 cy xh xq), (xc30 cy xh xq), ((xq 31), .inr (5, [.ref (xq 32), .int 0, .int 0]))]) (va_runS (As := [.null]) (rest := []) ⟨hx, hb, hml, hown, hts⟩ (c_numberOf l D cy  _) (va_cwS 1 hts gX11_deck_X11_numberOf rfl rfl rfl (by decide +kernel) ⟨(Nat.le_of_ble_eq_true rfl), (Nat.le_of_ble_eq_true rfl)⟩) (pre_S hKX hP hD [] rfl (by decide) rfl) rfl rfl hl.1 rfl (lv_room (Nat.le_of_ble_eq_true rfl)) dX11_deck_20 ⟨(Nat.le_of_ble_eq_true rfl), (Nat.le_of_ble_eq_true rfl)⟩) hP hD hS hA [] [0, 1, 2, 3, 4, 5, 6] rfl rfl (by decide) (by decide) (fun u13 H locs _ hP hD hS => ?_)
    have hP : va_P D vwCl [(xc0 cy xh xq), (xc24 cy xh xq), (xc25 cy xh xq), (xc26 cy xh xq), (xc28 cy xh xq), (xc30 cy xh xq), ((xq 31), .inr (5, [.ref (xq 32), .int 0, .int 0]))] H := hP
    have hD : va_D A [(xc0 cy xh xq), (xc24 cy xh xq), (xc25 cy xh xq), (xc26 cy xh xq), (xc28 cy xh xq), (xc30 cy xh xq), ((xq 31), .inr (5, [.ref (xq 32), .int 0, .int 0]))] := hD
    refine lv_goto (tgt := 27) hx hb dX11_deck_23 (by decide) ?_
    exact en_i hx hb hr hlocks () rfl trivial (hP.sub [] rfl) (hD.sub [] (by decide) rfl) hS (Nat.le_of_ble_eq_true rfl) (Nat.le_of_ble_eq_true rfl) dX11_deck_27
  · refine lv_iload_n hx hb dX11_deck_0 rfl (lv_at hl 1 rfl) ?_
    refine cl_i (wr := [(xc0 cy xh xq), (xc24 cy xh xq), (xc25 cy xh xq), (xc26 cy xh xq), (xc28 cy xh xq), (xc30 cy xh xq), (xc32 cy xh xq)]) (va_runS (As := [.int xd]) (rest := []) ⟨hx, hb, hml, hown, hts⟩ (c_isDeckTrack l D cy xd _) (va_cwS 1 hts gX11_deck_X11_isDeckTrack rfl rfl rfl (by decide +kernel) ⟨(Nat.le_of_ble_eq_true rfl), (Nat.le_of_ble_eq_true rfl)⟩) (pre_S hKX hP hD [] rfl (by decide) rfl) rfl rfl hl.1 rfl (lv_room (Nat.le_of_ble_eq_true rfl)) dX11_deck_1 ⟨(Nat.le_of_ble_eq_true rfl), (Nat.le_of_ble_eq_true rfl)⟩) hP hD hS hA [] [0, 1, 2, 3, 4, 5, 6] rfl rfl (by decide) (by decide) (fun u14 H locs _ hP hD hS => ?_)
    have hP : va_P D vwCl [(xc0 cy xh xq), (xc24 cy xh xq), (xc25 cy xh xq), (xc26 cy xh xq), (xc28 cy xh xq), (xc30 cy xh xq), (xc32 cy xh xq)] H := hP
    have hD : va_D A [(xc0 cy xh xq), (xc24 cy xh xq), (xc25 cy xh xq), (xc26 cy xh xq), (xc28 cy xh xq), (xc30 cy xh xq), (xc32 cy xh xq)] := hD
    refine lv_if_eq (tgt := 26) hx hb dX11_deck_4 (by decide) (fun _ => ?_) (fun c9 => absurd o1 c9)
    refine lv_iconst (v := (-1)) hx hb dX11_deck_26 (by decide) ?_
    exact en_i hx hb hr hlocks () rfl trivial (hP.sub [] rfl) (hD.sub [] (by decide) rfl) hS (Nat.le_of_ble_eq_true rfl) (Nat.le_of_ble_eq_true rfl) dX11_deck_27
set_option maxHeartbeats 4000000 in
set_option maxRecDepth 100000 in
theorem c_yard (l : Launch) (D : va_G) (cy : Nat → ClassId) (xh : Nat) (xq : Nat → Nat) (xs : Int32) (xt : Int32) (xi : Int32) (sz : Nat) : Met l yX11_yard wsX11_yard ({ frames := 3, cells := 0, slots := 0, locals := 64 }) (wPre D cy [.ref xh, .int xs, .int xt, .int xi] sz [(xc0 cy xh xq), (xc1 cy xh xq), (xc2 cy xh xq), (xc3 cy xh xq), (xc4 cy xh xq), (xc6 cy xh xq), (xc8 cy xh xq), (xc13 cy xh xq), (xc14 cy xh xq), (xc15 cy xh xq), (xc17 cy xh xq), (xc19 cy xh xq)]) (wQi D (-1) (fun _ : Unit => True) (fun _u : Unit => []) (va_A [(xc0 cy xh xq), (xc1 cy xh xq), (xc2 cy xh xq), (xc3 cy xh xq), (xc4 cy xh xq), (xc6 cy xh xq), (xc8 cy xh xq), (xc13 cy xh xq), (xc14 cy xh xq), (xc15 cy xh xq), (xc17 cy xh xq), (xc19 cy xh xq)] sz)) 0 0 (va_A [(xc0 cy xh xq), (xc1 cy xh xq), (xc2 cy xh xq), (xc3 cy xh xq), (xc4 cy xh xq), (xc6 cy xh xq), (xc8 cy xh xq), (xc13 cy xh xq), (xc14 cy xh xq), (xc15 cy xh xq), (xc17 cy xh xq), (xc19 cy xh xq)] sz) := by
  refine met_go (y := yX11_yard) (ws := wsX11_yard) (av := [.ref xh, .int xs, .int xt, .int xi]) (cc := cX11_yard) (maxL := 5) (ret := (some .int)) (Qc := fun A => wQi D (-1) (fun _ : Unit => True) (fun _u : Unit => []) A) (by decide) rfl (Nat.le_of_ble_eq_true rfl) ?_
  intro p e s m below meth c ls A hx hb hr hml hown hts hlocks hname hKX hP hD hA hS hl
  have hown : s.vm.findClass RX11 = some m.cls := hown
  have hl : lv_has ls 5 [(0, .ref xh), (1, .int xs), (2, .int xt), (3, .int xi)] := hl
  rcases sp2 xs with rfl | rfl | o1
  · rcases sp3 xt with rfl | rfl | rfl | o2
    · refine lv_aload_n hx hb dX11_yard_0 rfl (lv_at hl 0 rfl) ?_
      refine lv_iload_n hx hb dX11_yard_1 rfl (lv_at hl 1 rfl) ?_
      refine lv_iload_n hx hb dX11_yard_2 rfl (lv_at hl 2 rfl) ?_
      refine cl_q (wr := [(xc4 cy xh xq), (xc6 cy xh xq), (xc8 cy xh xq), (xc13 cy xh xq), (xc14 cy xh xq), (xc15 cy xh xq), (xc17 cy xh xq), (xc19 cy xh xq)]) (va_runV (As := [.int 0, .int 0]) (rest := []) ⟨hx, hb, hml, hown, hts⟩ (c_yardRow_00 l D cy xh xq _) (cwV 2 hts gX11_yard_X11_yardRow rfl rfl rfl (by decide +kernel) ⟨(Nat.le_of_ble_eq_true rfl), (Nat.le_of_ble_eq_true rfl)⟩) (pre_V hKX hP hD (ci := 11) (q0 := 0) rfl rfl [0, 1, 2, 3] rfl (by decide) rfl) rfl rfl hl.1 rfl (lv_room (Nat.le_of_ble_eq_true rfl)) dX11_yard_3 ⟨(Nat.le_of_ble_eq_true rfl), (Nat.le_of_ble_eq_true rfl)⟩) hP hD hS hA [0, 1, 2, 3] [4, 5, 6, 7, 8, 9, 10, 11] rfl rfl (by decide) (by decide) (fun u3 H locs _ hP hD hS => ?_)
      have hP : va_P D vwCl [(xc4 cy xh xq), (xc6 cy xh xq), (xc8 cy xh xq), (xc13 cy xh xq), (xc14 cy xh xq), (xc15 cy xh xq), (xc17 cy xh xq), (xc19 cy xh xq), (xc0 cy xh xq), (xc1 cy xh xq), (xc2 cy xh xq), (xc3 cy xh xq)] H := hP
      have hD : va_D A [(xc4 cy xh xq), (xc6 cy xh xq), (xc8 cy xh xq), (xc13 cy xh xq), (xc14 cy xh xq), (xc15 cy xh xq), (xc17 cy xh xq), (xc19 cy xh xq), (xc0 cy xh xq), (xc1 cy xh xq), (xc2 cy xh xq), (xc3 cy xh xq)] := hD
      refine lv_csv (.ref (xq 3)) rfl ?_
      refine lv_astore (lv' := [(4, .ref (xq 3)), (0, .ref xh), (1, .int 0), (2, .int 0), (3, .int xi)]) hx hb dX11_yard_6 hl (by decide) rfl (fun ls hl => ?_)
      refine lv_aload hx hb dX11_yard_8 (lv_at hl 0 rfl) ?_
      refine lv_ifnonnull (tgt := 17) hx hb dX11_yard_10 (by decide) ?_
      refine lv_aload hx hb dX11_yard_17 (lv_at hl 0 rfl) ?_
      refine lv_iload_n hx hb dX11_yard_19 rfl (lv_at hl 4 rfl) ?_
      refine cl_q (wr := [(xc6 cy xh xq), (xc8 cy xh xq), (xc13 cy xh xq), (xc14 cy xh xq), (xc15 cy xh xq), (xc17 cy xh xq), (xc19 cy xh xq), (xc0 cy xh xq), (xc1 cy xh xq), (xc2 cy xh xq), (xc3 cy xh xq)]) (va_runV (As := [.int xi]) (rest := []) ⟨hx, hb, hml, hown, hts⟩ (c_wagonAt l D cy (xq 3) (xq 4) xi _) (cwV 1 hts gX11_yard_X5_wagonAt rfl rfl rfl (by decide +kernel) ⟨(Nat.le_of_ble_eq_true rfl), (Nat.le_of_ble_eq_true rfl)⟩) (pre_V hKX hP hD (ci := 5) (q0 := 0) rfl rfl [0] rfl (by decide) rfl) rfl rfl hl.1 rfl (lv_room (Nat.le_of_ble_eq_true rfl)) dX11_yard_20 ⟨(Nat.le_of_ble_eq_true rfl), (Nat.le_of_ble_eq_true rfl)⟩) hP hD hS hA [0] [1, 2, 3, 4, 5, 6, 7, 8, 9, 10, 11] rfl rfl (by decide) (by decide) (fun u4 H locs _ hP hD hS => ?_)
      have hP : va_P D vwCl [(xc6 cy xh xq), (xc8 cy xh xq), (xc13 cy xh xq), (xc14 cy xh xq), (xc15 cy xh xq), (xc17 cy xh xq), (xc19 cy xh xq), (xc0 cy xh xq), (xc1 cy xh xq), (xc2 cy xh xq), (xc3 cy xh xq), ((xq 3), .inr (5, [.ref (xq 4), .int 0, .int 0]))] H := hP
      have hD : va_D A [(xc6 cy xh xq), (xc8 cy xh xq), (xc13 cy xh xq), (xc14 cy xh xq), (xc15 cy xh xq), (xc17 cy xh xq), (xc19 cy xh xq), (xc0 cy xh xq), (xc1 cy xh xq), (xc2 cy xh xq), (xc3 cy xh xq), ((xq 3), .inr (5, [.ref (xq 4), .int 0, .int 0]))] := hD
      refine lv_csv (.null) rfl ?_
      refine cl_i (wr := [(xc6 cy xh xq), (xc8 cy xh xq), (xc13 cy xh xq), (xc14 cy xh xq), (xc15 cy xh xq), (xc17 cy xh xq), (xc19 cy xh xq), (xc0 cy xh xq), (xc1 cy xh xq), (xc2 cy xh xq), (xc3 cy xh xq), ((xq 3), .inr (5, [.ref (xq 4), .int 0, .int 0]))]) (va_runS (As := [.null]) (rest := []) ⟨hx, hb, hml, hown, hts⟩ (c_numberOf l D cy  _) (va_cwS 1 hts gX11_yard_X11_numberOf rfl rfl rfl (by decide +kernel) ⟨(Nat.le_of_ble_eq_true rfl), (Nat.le_of_ble_eq_true rfl)⟩) (pre_S hKX hP hD [] rfl (by decide) rfl) rfl rfl hl.1 rfl (lv_room (Nat.le_of_ble_eq_true rfl)) dX11_yard_23 ⟨(Nat.le_of_ble_eq_true rfl), (Nat.le_of_ble_eq_true rfl)⟩) hP hD hS hA [] [0, 1, 2, 3, 4, 5, 6, 7, 8, 9, 10, 11] rfl rfl (by decide) (by decide) (fun u5 H locs _ hP hD hS => ?_)
      have hP : va_P D vwCl [(xc6 cy xh xq), (xc8 cy xh xq), (xc13 cy xh xq), (xc14 cy xh xq), (xc15 cy xh xq), (xc17 cy xh xq), (xc19 cy xh xq), (xc0 cy xh xq), (xc1 cy xh xq), (xc2 cy xh xq), (xc3 cy xh xq), ((xq 3), .inr (5, [.ref (xq 4), .int 0, .int 0]))] H := hP
      have hD : va_D A [(xc6 cy xh xq), (xc8 cy xh xq), (xc13 cy xh xq), (xc14 cy xh xq), (xc15 cy xh xq), (xc17 cy xh xq), (xc19 cy xh xq), (xc0 cy xh xq), (xc1 cy xh xq), (xc2 cy xh xq), (xc3 cy xh xq), ((xq 3), .inr (5, [.ref (xq 4), .int 0, .int 0]))] := hD
      exact en_i hx hb hr hlocks () rfl trivial (hP.sub [] rfl) (hD.sub [] (by decide) rfl) hS (Nat.le_of_ble_eq_true rfl) (Nat.le_of_ble_eq_true rfl) dX11_yard_26
    · refine lv_aload_n hx hb dX11_yard_0 rfl (lv_at hl 0 rfl) ?_
      refine lv_iload_n hx hb dX11_yard_1 rfl (lv_at hl 1 rfl) ?_
      refine lv_iload_n hx hb dX11_yard_2 rfl (lv_at hl 2 rfl) ?_
      refine cl_q (wr := [(xc4 cy xh xq), (xc6 cy xh xq), (xc8 cy xh xq), (xc13 cy xh xq), (xc14 cy xh xq), (xc15 cy xh xq), (xc17 cy xh xq), (xc19 cy xh xq)]) (va_runV (As := [.int 0, .int 1]) (rest := []) ⟨hx, hb, hml, hown, hts⟩ (c_yardRow_01 l D cy xh xq _) (cwV 2 hts gX11_yard_X11_yardRow rfl rfl rfl (by decide +kernel) ⟨(Nat.le_of_ble_eq_true rfl), (Nat.le_of_ble_eq_true rfl)⟩) (pre_V hKX hP hD (ci := 11) (q0 := 0) rfl rfl [0, 1, 2, 3] rfl (by decide) rfl) rfl rfl hl.1 rfl (lv_room (Nat.le_of_ble_eq_true rfl)) dX11_yard_3 ⟨(Nat.le_of_ble_eq_true rfl), (Nat.le_of_ble_eq_true rfl)⟩) hP hD hS hA [0, 1, 2, 3] [4, 5, 6, 7, 8, 9, 10, 11] rfl rfl (by decide) (by decide) (fun u6 H locs _ hP hD hS => ?_)
      have hP : va_P D vwCl [(xc4 cy xh xq), (xc6 cy xh xq), (xc8 cy xh xq), (xc13 cy xh xq), (xc14 cy xh xq), (xc15 cy xh xq), (xc17 cy xh xq), (xc19 cy xh xq), (xc0 cy xh xq), (xc1 cy xh xq), (xc2 cy xh xq), (xc3 cy xh xq)] H := hP
      have hD : va_D A [(xc4 cy xh xq), (xc6 cy xh xq), (xc8 cy xh xq), (xc13 cy xh xq), (xc14 cy xh xq), (xc15 cy xh xq), (xc17 cy xh xq), (xc19 cy xh xq), (xc0 cy xh xq), (xc1 cy xh xq), (xc2 cy xh xq), (xc3 cy xh xq)] := hD
      refine lv_csv (.ref (xq 5)) rfl ?_
      refine lv_astore (lv' := [(4, .ref (xq 5)), (0, .ref xh), (1, .int 0), (2, .int 1), (3, .int xi)]) hx hb dX11_yard_6 hl (by decide) rfl (fun ls hl => ?_)
      refine lv_aload hx hb dX11_yard_8 (lv_at hl 0 rfl) ?_
      refine lv_ifnonnull (tgt := 17) hx hb dX11_yard_10 (by decide) ?_
      refine lv_aload hx hb dX11_yard_17 (lv_at hl 0 rfl) ?_
      refine lv_iload_n hx hb dX11_yard_19 rfl (lv_at hl 4 rfl) ?_
      refine cl_q (wr := [(xc4 cy xh xq), (xc8 cy xh xq), (xc13 cy xh xq), (xc14 cy xh xq), (xc15 cy xh xq), (xc17 cy xh xq), (xc19 cy xh xq), (xc0 cy xh xq), (xc1 cy xh xq), (xc2 cy xh xq), (xc3 cy xh xq)]) (va_runV (As := [.int xi]) (rest := []) ⟨hx, hb, hml, hown, hts⟩ (c_wagonAt l D cy (xq 5) (xq 6) xi _) (cwV 1 hts gX11_yard_X5_wagonAt rfl rfl rfl (by decide +kernel) ⟨(Nat.le_of_ble_eq_true rfl), (Nat.le_of_ble_eq_true rfl)⟩) (pre_V hKX hP hD (ci := 5) (q0 := 1) rfl rfl [1] rfl (by decide) rfl) rfl rfl hl.1 rfl (lv_room (Nat.le_of_ble_eq_true rfl)) dX11_yard_20 ⟨(Nat.le_of_ble_eq_true rfl), (Nat.le_of_ble_eq_true rfl)⟩) hP hD hS hA [1] [0, 2, 3, 4, 5, 6, 7, 8, 9, 10, 11] rfl rfl (by decide) (by decide) (fun u7 H locs _ hP hD hS => ?_)
      have hP : va_P D vwCl [(xc4 cy xh xq), (xc8 cy xh xq), (xc13 cy xh xq), (xc14 cy xh xq), (xc15 cy xh xq), (xc17 cy xh xq), (xc19 cy xh xq), (xc0 cy xh xq), (xc1 cy xh xq), (xc2 cy xh xq), (xc3 cy xh xq), ((xq 5), .inr (5, [.ref (xq 6), .int 0, .int 0]))] H := hP
      have hD : va_D A [(xc4 cy xh xq), (xc8 cy xh xq), (xc13 cy xh xq), (xc14 cy xh xq), (xc15 cy xh xq), (xc17 cy xh xq), (xc19 cy xh xq), (xc0 cy xh xq), (xc1 cy xh xq), (xc2 cy xh xq), (xc3 cy xh xq), ((xq 5), .inr (5, [.ref (xq 6), .int 0, .int 0]))] := hD
      refine lv_csv (.null) rfl ?_
      refine cl_i (wr := [(xc4 cy xh xq), (xc8 cy xh xq), (xc13 cy xh xq), (xc14 cy xh xq), (xc15 cy xh xq), (xc17 cy xh xq), (xc19 cy xh xq), (xc0 cy xh xq), (xc1 cy xh xq), (xc2 cy xh xq), (xc3 cy xh xq), ((xq 5), .inr (5, [.ref (xq 6), .int 0, .int 0]))]) (va_runS (As := [.null]) (rest := []) ⟨hx, hb, hml, hown, hts⟩ (c_numberOf l D cy  _) (va_cwS 1 hts gX11_yard_X11_numberOf rfl rfl rfl (by decide +kernel) ⟨(Nat.le_of_ble_eq_true rfl), (Nat.le_of_ble_eq_true rfl)⟩) (pre_S hKX hP hD [] rfl (by decide) rfl) rfl rfl hl.1 rfl (lv_room (Nat.le_of_ble_eq_true rfl)) dX11_yard_23 ⟨(Nat.le_of_ble_eq_true rfl), (Nat.le_of_ble_eq_true rfl)⟩) hP hD hS hA [] [0, 1, 2, 3, 4, 5, 6, 7, 8, 9, 10, 11] rfl rfl (by decide) (by decide) (fun u8 H locs _ hP hD hS => ?_)
      have hP : va_P D vwCl [(xc4 cy xh xq), (xc8 cy xh xq), (xc13 cy xh xq), (xc14 cy xh xq), (xc15 cy xh xq), (xc17 cy xh xq), (xc19 cy xh xq), (xc0 cy xh xq), (xc1 cy xh xq), (xc2 cy xh xq), (xc3 cy xh xq), ((xq 5), .inr (5, [.ref (xq 6), .int 0, .int 0]))] H := hP
      have hD : va_D A [(xc4 cy xh xq), (xc8 cy xh xq), (xc13 cy xh xq), (xc14 cy xh xq), (xc15 cy xh xq), (xc17 cy xh xq), (xc19 cy xh xq), (xc0 cy xh xq), (xc1 cy xh xq), (xc2 cy xh xq), (xc3 cy xh xq), ((xq 5), .inr (5, [.ref (xq 6), .int 0, .int 0]))] := hD
      exact en_i hx hb hr hlocks () rfl trivial (hP.sub [] rfl) (hD.sub [] (by decide) rfl) hS (Nat.le_of_ble_eq_true rfl) (Nat.le_of_ble_eq_true rfl) dX11_yard_26
    · refine lv_aload_n hx hb dX11_yard_0 rfl (lv_at hl 0 rfl) ?_
      refine lv_iload_n hx hb dX11_yard_1 rfl (lv_at hl 1 rfl) ?_
      refine lv_iload_n hx hb dX11_yard_2 rfl (lv_at hl 2 rfl) ?_
      refine cl_q (wr := [(xc4 cy xh xq), (xc6 cy xh xq), (xc8 cy xh xq), (xc13 cy xh xq), (xc14 cy xh xq), (xc15 cy xh xq), (xc17 cy xh xq), (xc19 cy xh xq)]) (va_runV (As := [.int 0, .int 2]) (rest := []) ⟨hx, hb, hml, hown, hts⟩ (c_yardRow_02 l D cy xh xq _) (cwV 2 hts gX11_yard_X11_yardRow rfl rfl rfl (by decide +kernel) ⟨(Nat.le_of_ble_eq_true rfl), (Nat.le_of_ble_eq_true rfl)⟩) (pre_V hKX hP hD (ci := 11) (q0 := 0) rfl rfl [0, 1, 2, 3] rfl (by decide) rfl) rfl rfl hl.1 rfl (lv_room (Nat.le_of_ble_eq_true rfl)) dX11_yard_3 ⟨(Nat.le_of_ble_eq_true rfl), (Nat.le_of_ble_eq_true rfl)⟩) hP hD hS hA [0, 1, 2, 3] [4, 5, 6, 7, 8, 9, 10, 11] rfl rfl (by decide) (by decide) (fun u9 H locs _ hP hD hS => ?_)
      have hP : va_P D vwCl [(xc4 cy xh xq), (xc6 cy xh xq), (xc8 cy xh xq), (xc13 cy xh xq), (xc14 cy xh xq), (xc15 cy xh xq), (xc17 cy xh xq), (xc19 cy xh xq), (xc0 cy xh xq), (xc1 cy xh xq), (xc2 cy xh xq), (xc3 cy xh xq)] H := hP
      have hD : va_D A [(xc4 cy xh xq), (xc6 cy xh xq), (xc8 cy xh xq), (xc13 cy xh xq), (xc14 cy xh xq), (xc15 cy xh xq), (xc17 cy xh xq), (xc19 cy xh xq), (xc0 cy xh xq), (xc1 cy xh xq), (xc2 cy xh xq), (xc3 cy xh xq)] := hD
      refine lv_csv (.ref (xq 7)) rfl ?_
      refine lv_astore (lv' := [(4, .ref (xq 7)), (0, .ref xh), (1, .int 0), (2, .int 2), (3, .int xi)]) hx hb dX11_yard_6 hl (by decide) rfl (fun ls hl => ?_)
      refine lv_aload hx hb dX11_yard_8 (lv_at hl 0 rfl) ?_
      refine lv_ifnonnull (tgt := 17) hx hb dX11_yard_10 (by decide) ?_
      refine lv_aload hx hb dX11_yard_17 (lv_at hl 0 rfl) ?_
      refine lv_iload_n hx hb dX11_yard_19 rfl (lv_at hl 4 rfl) ?_
      refine cl_q (wr := [(xc4 cy xh xq), (xc6 cy xh xq), (xc13 cy xh xq), (xc14 cy xh xq), (xc15 cy xh xq), (xc17 cy xh xq), (xc19 cy xh xq), (xc0 cy xh xq), (xc1 cy xh xq), (xc2 cy xh xq), (xc3 cy xh xq)]) (va_runV (As := [.int xi]) (rest := []) ⟨hx, hb, hml, hown, hts⟩ (c_wagonAt l D cy (xq 7) (xq 8) xi _) (cwV 1 hts gX11_yard_X5_wagonAt rfl rfl rfl (by decide +kernel) ⟨(Nat.le_of_ble_eq_true rfl), (Nat.le_of_ble_eq_true rfl)⟩) (pre_V hKX hP hD (ci := 5) (q0 := 2) rfl rfl [2] rfl (by decide) rfl) rfl rfl hl.1 rfl (lv_room (Nat.le_of_ble_eq_true rfl)) dX11_yard_20 ⟨(Nat.le_of_ble_eq_true rfl), (Nat.le_of_ble_eq_true rfl)⟩) hP hD hS hA [2] [0, 1, 3, 4, 5, 6, 7, 8, 9, 10, 11] rfl rfl (by decide) (by decide) (fun u10 H locs _ hP hD hS => ?_)
      have hP : va_P D vwCl [(xc4 cy xh xq), (xc6 cy xh xq), (xc13 cy xh xq), (xc14 cy xh xq), (xc15 cy xh xq), (xc17 cy xh xq), (xc19 cy xh xq), (xc0 cy xh xq), (xc1 cy xh xq), (xc2 cy xh xq), (xc3 cy xh xq), ((xq 7), .inr (5, [.ref (xq 8), .int 0, .int 0]))] H := hP
      have hD : va_D A [(xc4 cy xh xq), (xc6 cy xh xq), (xc13 cy xh xq), (xc14 cy xh xq), (xc15 cy xh xq), (xc17 cy xh xq), (xc19 cy xh xq), (xc0 cy xh xq), (xc1 cy xh xq), (xc2 cy xh xq), (xc3 cy xh xq), ((xq 7), .inr (5, [.ref (xq 8), .int 0, .int 0]))] := hD
      refine lv_csv (.null) rfl ?_
      refine cl_i (wr := [(xc4 cy xh xq), (xc6 cy xh xq), (xc13 cy xh xq), (xc14 cy xh xq), (xc15 cy xh xq), (xc17 cy xh xq), (xc19 cy xh xq), (xc0 cy xh xq), (xc1 cy xh xq), (xc2 cy xh xq), (xc3 cy xh xq), ((xq 7), .inr (5, [.ref (xq 8), .int 0, .int 0]))]) (va_runS (As := [.null]) (rest := []) ⟨hx, hb, hml, hown, hts⟩ (c_numberOf l D cy  _) (va_cwS 1 hts gX11_yard_X11_numberOf rfl rfl rfl (by decide +kernel) ⟨(Nat.le_of_ble_eq_true rfl), (Nat.le_of_ble_eq_true rfl)⟩) (pre_S hKX hP hD [] rfl (by decide) rfl) rfl rfl hl.1 rfl (lv_room (Nat.le_of_ble_eq_true rfl)) dX11_yard_23 ⟨(Nat.le_of_ble_eq_true rfl), (Nat.le_of_ble_eq_true rfl)⟩) hP hD hS hA [] [0, 1, 2, 3, 4, 5, 6, 7, 8, 9, 10, 11] rfl rfl (by decide) (by decide) (fun u11 H locs _ hP hD hS => ?_)
      have hP : va_P D vwCl [(xc4 cy xh xq), (xc6 cy xh xq), (xc13 cy xh xq), (xc14 cy xh xq), (xc15 cy xh xq), (xc17 cy xh xq), (xc19 cy xh xq), (xc0 cy xh xq), (xc1 cy xh xq), (xc2 cy xh xq), (xc3 cy xh xq), ((xq 7), .inr (5, [.ref (xq 8), .int 0, .int 0]))] H := hP
      have hD : va_D A [(xc4 cy xh xq), (xc6 cy xh xq), (xc13 cy xh xq), (xc14 cy xh xq), (xc15 cy xh xq), (xc17 cy xh xq), (xc19 cy xh xq), (xc0 cy xh xq), (xc1 cy xh xq), (xc2 cy xh xq), (xc3 cy xh xq), ((xq 7), .inr (5, [.ref (xq 8), .int 0, .int 0]))] := hD
      exact en_i hx hb hr hlocks () rfl trivial (hP.sub [] rfl) (hD.sub [] (by decide) rfl) hS (Nat.le_of_ble_eq_true rfl) (Nat.le_of_ble_eq_true rfl) dX11_yard_26
    · refine lv_aload_n hx hb dX11_yard_0 rfl (lv_at hl 0 rfl) ?_
      refine lv_iload_n hx hb dX11_yard_1 rfl (lv_at hl 1 rfl) ?_
      refine lv_iload_n hx hb dX11_yard_2 rfl (lv_at hl 2 rfl) ?_
      refine cl_q (wr := [(xc0 cy xh xq), (xc1 cy xh xq), (xc2 cy xh xq), (xc3 cy xh xq), (xc4 cy xh xq), (xc6 cy xh xq), (xc8 cy xh xq), (xc13 cy xh xq), (xc14 cy xh xq), (xc15 cy xh xq), (xc17 cy xh xq), (xc19 cy xh xq)]) (va_runV (As := [.int 0, .int xt]) (rest := []) ⟨hx, hb, hml, hown, hts⟩ (c_yardRow_t l D cy xh _ 0 xt o2 _) (cwV 2 hts gX11_yard_X11_yardRow rfl rfl rfl (by decide +kernel) ⟨(Nat.le_of_ble_eq_true rfl), (Nat.le_of_ble_eq_true rfl)⟩) (pre_V hKX hP hD (ci := 11) (q0 := 0) rfl rfl [] rfl (by decide) rfl) rfl rfl hl.1 rfl (lv_room (Nat.le_of_ble_eq_true rfl)) dX11_yard_3 ⟨(Nat.le_of_ble_eq_true rfl), (Nat.le_of_ble_eq_true rfl)⟩) hP hD hS hA [] [0, 1, 2, 3, 4, 5, 6, 7, 8, 9, 10, 11] rfl rfl (by decide) (by decide) (fun u12 H locs _ hP hD hS => ?_)
      have hP : va_P D vwCl [(xc0 cy xh xq), (xc1 cy xh xq), (xc2 cy xh xq), (xc3 cy xh xq), (xc4 cy xh xq), (xc6 cy xh xq), (xc8 cy xh xq), (xc13 cy xh xq), (xc14 cy xh xq), (xc15 cy xh xq), (xc17 cy xh xq), (xc19 cy xh xq)] H := hP
      have hD : va_D A [(xc0 cy xh xq), (xc1 cy xh xq), (xc2 cy xh xq), (xc3 cy xh xq), (xc4 cy xh xq), (xc6 cy xh xq), (xc8 cy xh xq), (xc13 cy xh xq), (xc14 cy xh xq), (xc15 cy xh xq), (xc17 cy xh xq), (xc19 cy xh xq)] := hD
      refine lv_csv (.null) rfl ?_
      refine lv_astoreN (lv' := [(4, .null), (0, .ref xh), (1, .int 0), (2, .int xt), (3, .int xi)]) hx hb dX11_yard_6 hl (by decide) rfl (fun ls hl => ?_)
      refine lv_aloadN hx hb dX11_yard_8 (lv_at hl 0 rfl) ?_
      refine lv_ifnonnullN hx hb dX11_yard_10 ?_
      refine lv_iconst (v := (-1)) hx hb dX11_yard_13 (by decide) ?_
      refine lv_goto (tgt := 26) hx hb dX11_yard_14 (by decide) ?_
      exact en_i hx hb hr hlocks () rfl trivial (hP.sub [] rfl) (hD.sub [] (by decide) rfl) hS (Nat.le_of_ble_eq_true rfl) (Nat.le_of_ble_eq_true rfl) dX11_yard_26
  · rcases sp3 xt with rfl | rfl | rfl | o13
    · refine lv_aload_n hx hb dX11_yard_0 rfl (lv_at hl 0 rfl) ?_
      refine lv_iload_n hx hb dX11_yard_1 rfl (lv_at hl 1 rfl) ?_
      refine lv_iload_n hx hb dX11_yard_2 rfl (lv_at hl 2 rfl) ?_
      refine cl_q (wr := [(xc2 cy xh xq), (xc3 cy xh xq), (xc4 cy xh xq), (xc6 cy xh xq), (xc8 cy xh xq), (xc15 cy xh xq), (xc17 cy xh xq), (xc19 cy xh xq)]) (va_runV (As := [.int 1, .int 0]) (rest := []) ⟨hx, hb, hml, hown, hts⟩ (c_yardRow_10 l D cy xh xq _) (cwV 2 hts gX11_yard_X11_yardRow rfl rfl rfl (by decide +kernel) ⟨(Nat.le_of_ble_eq_true rfl), (Nat.le_of_ble_eq_true rfl)⟩) (pre_V hKX hP hD (ci := 11) (q0 := 0) rfl rfl [0, 1, 7, 8] rfl (by decide) rfl) rfl rfl hl.1 rfl (lv_room (Nat.le_of_ble_eq_true rfl)) dX11_yard_3 ⟨(Nat.le_of_ble_eq_true rfl), (Nat.le_of_ble_eq_true rfl)⟩) hP hD hS hA [0, 1, 7, 8] [2, 3, 4, 5, 6, 9, 10, 11] rfl rfl (by decide) (by decide) (fun u14 H locs _ hP hD hS => ?_)
      have hP : va_P D vwCl [(xc2 cy xh xq), (xc3 cy xh xq), (xc4 cy xh xq), (xc6 cy xh xq), (xc8 cy xh xq), (xc15 cy xh xq), (xc17 cy xh xq), (xc19 cy xh xq), (xc0 cy xh xq), (xc1 cy xh xq), (xc13 cy xh xq), (xc14 cy xh xq)] H := hP
      have hD : va_D A [(xc2 cy xh xq), (xc3 cy xh xq), (xc4 cy xh xq), (xc6 cy xh xq), (xc8 cy xh xq), (xc15 cy xh xq), (xc17 cy xh xq), (xc19 cy xh xq), (xc0 cy xh xq), (xc1 cy xh xq), (xc13 cy xh xq), (xc14 cy xh xq)] := hD
      refine lv_csv (.ref (xq 14)) rfl ?_
      refine lv_astore (lv' := [(4, .ref (xq 14)), (0, .ref xh), (1, .int 1), (2, .int 0), (3, .int xi)]) hx hb dX11_yard_6 hl (by decide) rfl (fun ls hl => ?_)
      refine lv_aload hx hb dX11_yard_8 (lv_at hl 0 rfl) ?_
      refine lv_ifnonnull (tgt := 17) hx hb dX11_yard_10 (by decide) ?_
      refine lv_aload hx hb dX11_yard_17 (lv_at hl 0 rfl) ?_
      refine lv_iload_n hx hb dX11_yard_19 rfl (lv_at hl 4 rfl) ?_
      refine cl_q (wr := [(xc2 cy xh xq), (xc3 cy xh xq), (xc4 cy xh xq), (xc6 cy xh xq), (xc8 cy xh xq), (xc17 cy xh xq), (xc19 cy xh xq), (xc0 cy xh xq), (xc1 cy xh xq), (xc13 cy xh xq), (xc14 cy xh xq)]) (va_runV (As := [.int xi]) (rest := []) ⟨hx, hb, hml, hown, hts⟩ (c_wagonAt l D cy (xq 14) (xq 15) xi _) (cwV 1 hts gX11_yard_X5_wagonAt rfl rfl rfl (by decide +kernel) ⟨(Nat.le_of_ble_eq_true rfl), (Nat.le_of_ble_eq_true rfl)⟩) (pre_V hKX hP hD (ci := 5) (q0 := 5) rfl rfl [5] rfl (by decide) rfl) rfl rfl hl.1 rfl (lv_room (Nat.le_of_ble_eq_true rfl)) dX11_yard_20 ⟨(Nat.le_of_ble_eq_true rfl), (Nat.le_of_ble_eq_true rfl)⟩) hP hD hS hA [5] [0, 1, 2, 3, 4, 6, 7, 8, 9, 10, 11] rfl rfl (by decide) (by decide) (fun u15 H locs _ hP hD hS => ?_)
      have hP : va_P D vwCl [(xc2 cy xh xq), (xc3 cy xh xq), (xc4 cy xh xq), (xc6 cy xh xq), (xc8 cy xh xq), (xc17 cy xh xq), (xc19 cy xh xq), (xc0 cy xh xq), (xc1 cy xh xq), (xc13 cy xh xq), (xc14 cy xh xq), ((xq 14), .inr (5, [.ref (xq 15), .int 0, .int 0]))] H := hP
      have hD : va_D A [(xc2 cy xh xq), (xc3 cy xh xq), (xc4 cy xh xq), (xc6 cy xh xq), (xc8 cy xh xq), (xc17 cy xh xq), (xc19 cy xh xq), (xc0 cy xh xq), (xc1 cy xh xq), (xc13 cy xh xq), (xc14 cy xh xq), ((xq 14), .inr (5, [.ref (xq 15), .int 0, .int 0]))] := hD
      refine lv_csv (.null) rfl ?_
      refine cl_i (wr := [(xc2 cy xh xq), (xc3 cy xh xq), (xc4 cy xh xq), (xc6 cy xh xq), (xc8 cy xh xq), (xc17 cy xh xq), (xc19 cy xh xq), (xc0 cy xh xq), (xc1 cy xh xq), (xc13 cy xh xq), (xc14 cy xh xq), ((xq 14), .inr (5, [.ref (xq 15), .int 0, .int 0]))]) (va_runS (As := [.null]) (rest := []) ⟨hx, hb, hml, hown, hts⟩ (c_numberOf l D cy  _) (va_cwS 1 hts gX11_yard_X11_numberOf rfl rfl rfl (by decide +kernel) ⟨(Nat.le_of_ble_eq_true rfl), (Nat.le_of_ble_eq_true rfl)⟩) (pre_S hKX hP hD [] rfl (by decide) rfl) rfl rfl hl.1 rfl (lv_room (Nat.le_of_ble_eq_true rfl)) dX11_yard_23 ⟨(Nat.le_of_ble_eq_true rfl), (Nat.le_of_ble_eq_true rfl)⟩) hP hD hS hA [] [0, 1, 2, 3, 4, 5, 6, 7, 8, 9, 10, 11] rfl rfl (by decide) (by decide) (fun u16 H locs _ hP hD hS => ?_)
      have hP : va_P D vwCl [(xc2 cy xh xq), (xc3 cy xh xq), (xc4 cy xh xq), (xc6 cy xh xq), (xc8 cy xh xq), (xc17 cy xh xq), (xc19 cy xh xq), (xc0 cy xh xq), (xc1 cy xh xq), (xc13 cy xh xq), (xc14 cy xh xq), ((xq 14), .inr (5, [.ref (xq 15), .int 0, .int 0]))] H := hP
      have hD : va_D A [(xc2 cy xh xq), (xc3 cy xh xq), (xc4 cy xh xq), (xc6 cy xh xq), (xc8 cy xh xq), (xc17 cy xh xq), (xc19 cy xh xq), (xc0 cy xh xq), (xc1 cy xh xq), (xc13 cy xh xq), (xc14 cy xh xq), ((xq 14), .inr (5, [.ref (xq 15), .int 0, .int 0]))] := hD
      exact en_i hx hb hr hlocks () rfl trivial (hP.sub [] rfl) (hD.sub [] (by decide) rfl) hS (Nat.le_of_ble_eq_true rfl) (Nat.le_of_ble_eq_true rfl) dX11_yard_26
    · refine lv_aload_n hx hb dX11_yard_0 rfl (lv_at hl 0 rfl) ?_
      refine lv_iload_n hx hb dX11_yard_1 rfl (lv_at hl 1 rfl) ?_
      refine lv_iload_n hx hb dX11_yard_2 rfl (lv_at hl 2 rfl) ?_
      refine cl_q (wr := [(xc2 cy xh xq), (xc3 cy xh xq), (xc4 cy xh xq), (xc6 cy xh xq), (xc8 cy xh xq), (xc15 cy xh xq), (xc17 cy xh xq), (xc19 cy xh xq)]) (va_runV (As := [.int 1, .int 1]) (rest := []) ⟨hx, hb, hml, hown, hts⟩ (c_yardRow_11 l D cy xh xq _) (cwV 2 hts gX11_yard_X11_yardRow rfl rfl rfl (by decide +kernel) ⟨(Nat.le_of_ble_eq_true rfl), (Nat.le_of_ble_eq_true rfl)⟩) (pre_V hKX hP hD (ci := 11) (q0 := 0) rfl rfl [0, 1, 7, 8] rfl (by decide) rfl) rfl rfl hl.1 rfl (lv_room (Nat.le_of_ble_eq_true rfl)) dX11_yard_3 ⟨(Nat.le_of_ble_eq_true rfl), (Nat.le_of_ble_eq_true rfl)⟩) hP hD hS hA [0, 1, 7, 8] [2, 3, 4, 5, 6, 9, 10, 11] rfl rfl (by decide) (by decide) (fun u17 H locs _ hP hD hS => ?_)
      have hP : va_P D vwCl [(xc2 cy xh xq), (xc3 cy xh xq), (xc4 cy xh xq), (xc6 cy xh xq), (xc8 cy xh xq), (xc15 cy xh xq), (xc17 cy xh xq), (xc19 cy xh xq), (xc0 cy xh xq), (xc1 cy xh xq), (xc13 cy xh xq), (xc14 cy xh xq)] H := hP
      have hD : va_D A [(xc2 cy xh xq), (xc3 cy xh xq), (xc4 cy xh xq), (xc6 cy xh xq), (xc8 cy xh xq), (xc15 cy xh xq), (xc17 cy xh xq), (xc19 cy xh xq), (xc0 cy xh xq), (xc1 cy xh xq), (xc13 cy xh xq), (xc14 cy xh xq)] := hD
      refine lv_csv (.ref (xq 16)) rfl ?_
      refine lv_astore (lv' := [(4, .ref (xq 16)), (0, .ref xh), (1, .int 1), (2, .int 1), (3, .int xi)]) hx hb dX11_yard_6 hl (by decide) rfl (fun ls hl => ?_)
      refine lv_aload hx hb dX11_yard_8 (lv_at hl 0 rfl) ?_
      refine lv_ifnonnull (tgt := 17) hx hb dX11_yard_10 (by decide) ?_
      refine lv_aload hx hb dX11_yard_17 (lv_at hl 0 rfl) ?_
      refine lv_iload_n hx hb dX11_yard_19 rfl (lv_at hl 4 rfl) ?_
      refine cl_q (wr := [(xc2 cy xh xq), (xc3 cy xh xq), (xc4 cy xh xq), (xc6 cy xh xq), (xc8 cy xh xq), (xc15 cy xh xq), (xc19 cy xh xq), (xc0 cy xh xq), (xc1 cy xh xq), (xc13 cy xh xq), (xc14 cy xh xq)]) (va_runV (As := [.int xi]) (rest := []) ⟨hx, hb, hml, hown, hts⟩ (c_wagonAt l D cy (xq 16) (xq 17) xi _) (cwV 1 hts gX11_yard_X5_wagonAt rfl rfl rfl (by decide +kernel) ⟨(Nat.le_of_ble_eq_true rfl), (Nat.le_of_ble_eq_true rfl)⟩) (pre_V hKX hP hD (ci := 5) (q0 := 6) rfl rfl [6] rfl (by decide) rfl) rfl rfl hl.1 rfl (lv_room (Nat.le_of_ble_eq_true rfl)) dX11_yard_20 ⟨(Nat.le_of_ble_eq_true rfl), (Nat.le_of_ble_eq_true rfl)⟩) hP hD hS hA [6] [0, 1, 2, 3, 4, 5, 7, 8, 9, 10, 11] rfl rfl (by decide) (by decide) (fun u18 H locs _ hP hD hS => ?_)
      have hP : va_P D vwCl [(xc2 cy xh xq), (xc3 cy xh xq), (xc4 cy xh xq), (xc6 cy xh xq), (xc8 cy xh xq), (xc15 cy xh xq), (xc19 cy xh xq), (xc0 cy xh xq), (xc1 cy xh xq), (xc13 cy xh xq), (xc14 cy xh xq), ((xq 16), .inr (5, [.ref (xq 17), .int 0, .int 0]))] H := hP
      have hD : va_D A [(xc2 cy xh xq), (xc3 cy xh xq), (xc4 cy xh xq), (xc6 cy xh xq), (xc8 cy xh xq), (xc15 cy xh xq), (xc19 cy xh xq), (xc0 cy xh xq), (xc1 cy xh xq), (xc13 cy xh xq), (xc14 cy xh xq), ((xq 16), .inr (5, [.ref (xq 17), .int 0, .int 0]))] := hD
      refine lv_csv (.null) rfl ?_
      refine cl_i (wr := [(xc2 cy xh xq), (xc3 cy xh xq), (xc4 cy xh xq), (xc6 cy xh xq), (xc8 cy xh xq), (xc15 cy xh xq), (xc19 cy xh xq), (xc0 cy xh xq), (xc1 cy xh xq), (xc13 cy xh xq), (xc14 cy xh xq), ((xq 16), .inr (5, [.ref (xq 17), .int 0, .int 0]))]) (va_runS (As := [.null]) (rest := []) ⟨hx, hb, hml, hown, hts⟩ (c_numberOf l D cy  _) (va_cwS 1 hts gX11_yard_X11_numberOf rfl rfl rfl (by decide +kernel) ⟨(Nat.le_of_ble_eq_true rfl), (Nat.le_of_ble_eq_true rfl)⟩) (pre_S hKX hP hD [] rfl (by decide) rfl) rfl rfl hl.1 rfl (lv_room (Nat.le_of_ble_eq_true rfl)) dX11_yard_23 ⟨(Nat.le_of_ble_eq_true rfl), (Nat.le_of_ble_eq_true rfl)⟩) hP hD hS hA [] [0, 1, 2, 3, 4, 5, 6, 7, 8, 9, 10, 11] rfl rfl (by decide) (by decide) (fun u19 H locs _ hP hD hS => ?_)
      have hP : va_P D vwCl [(xc2 cy xh xq), (xc3 cy xh xq), (xc4 cy xh xq), (xc6 cy xh xq), (xc8 cy xh xq), (xc15 cy xh xq), (xc19 cy xh xq), (xc0 cy xh xq), (xc1 cy xh xq), (xc13 cy xh xq), (xc14 cy xh xq), ((xq 16), .inr (5, [.ref (xq 17), .int 0, .int 0]))] H := hP
      have hD : va_D A [(xc2 cy xh xq), (xc3 cy xh xq), (xc4 cy xh xq), (xc6 cy xh xq), (xc8 cy xh xq), (xc15 cy xh xq), (xc19 cy xh xq), (xc0 cy xh xq), (xc1 cy xh xq), (xc13 cy xh xq), (xc14 cy xh xq), ((xq 16), .inr (5, [.ref (xq 17), .int 0, .int 0]))] := hD
      exact en_i hx hb hr hlocks () rfl trivial (hP.sub [] rfl) (hD.sub [] (by decide) rfl) hS (Nat.le_of_ble_eq_true rfl) (Nat.le_of_ble_eq_true rfl) dX11_yard_26
    · refine lv_aload_n hx hb dX11_yard_0 rfl (lv_at hl 0 rfl) ?_
      refine lv_iload_n hx hb dX11_yard_1 rfl (lv_at hl 1 rfl) ?_
      refine lv_iload_n hx hb dX11_yard_2 rfl (lv_at hl 2 rfl) ?_
      refine cl_q (wr := [(xc2 cy xh xq), (xc3 cy xh xq), (xc4 cy xh xq), (xc6 cy xh xq), (xc8 cy xh xq), (xc15 cy xh xq), (xc17 cy xh xq), (xc19 cy xh xq)]) (va_runV (As := [.int 1, .int 2]) (rest := []) ⟨hx, hb, hml, hown, hts⟩ (c_yardRow_12 l D cy xh xq _) (cwV 2 hts gX11_yard_X11_yardRow rfl rfl rfl (by decide +kernel) ⟨(Nat.le_of_ble_eq_true rfl), (Nat.le_of_ble_eq_true rfl)⟩) (pre_V hKX hP hD (ci := 11) (q0 := 0) rfl rfl [0, 1, 7, 8] rfl (by decide) rfl) rfl rfl hl.1 rfl (lv_room (Nat.le_of_ble_eq_true rfl)) dX11_yard_3 ⟨(Nat.le_of_ble_eq_true rfl), (Nat.le_of_ble_eq_true rfl)⟩) hP hD hS hA [0, 1, 7, 8] [2, 3, 4, 5, 6, 9, 10, 11] rfl rfl (by decide) (by decide) (fun u20 H locs _ hP hD hS => ?_)
      have hP : va_P D vwCl [(xc2 cy xh xq), (xc3 cy xh xq), (xc4 cy xh xq), (xc6 cy xh xq), (xc8 cy xh xq), (xc15 cy xh xq), (xc17 cy xh xq), (xc19 cy xh xq), (xc0 cy xh xq), (xc1 cy xh xq), (xc13 cy xh xq), (xc14 cy xh xq)] H := hP
      have hD : va_D A [(xc2 cy xh xq), (xc3 cy xh xq), (xc4 cy xh xq), (xc6 cy xh xq), (xc8 cy xh xq), (xc15 cy xh xq), (xc17 cy xh xq), (xc19 cy xh xq), (xc0 cy xh xq), (xc1 cy xh xq), (xc13 cy xh xq), (xc14 cy xh xq)] := hD
      refine lv_csv (.ref (xq 18)) rfl ?_
      refine lv_astore (lv' := [(4, .ref (xq 18)), (0, .ref xh), (1, .int 1), (2, .int 2), (3, .int xi)]) hx hb dX11_yard_6 hl (by decide) rfl (fun ls hl => ?_)
      refine lv_aload hx hb dX11_yard_8 (lv_at hl 0 rfl) ?_
      refine lv_ifnonnull (tgt := 17) hx hb dX11_yard_10 (by decide) ?_
      refine lv_aload hx hb dX11_yard_17 (lv_at hl 0 rfl) ?_
      refine lv_iload_n hx hb dX11_yard_19 rfl (lv_at hl 4 rfl) ?_
      refine cl_q (wr := [(xc2 cy xh xq), (xc3 cy xh xq), (xc4 cy xh xq), (xc6 cy xh xq), (xc8 cy xh xq), (xc15 cy xh xq), (xc17 cy xh xq), (xc0 cy xh xq), (xc1 cy xh xq), (xc13 cy xh xq), (xc14 cy xh xq)]) (va_runV (As := [.int xi]) (rest := []) ⟨hx, hb, hml, hown, hts⟩ (c_wagonAt l D cy (xq 18) (xq 19) xi _) (cwV 1 hts gX11_yard_X5_wagonAt rfl rfl rfl (by decide +kernel) ⟨(Nat.le_of_ble_eq_true rfl), (Nat.le_of_ble_eq_true rfl)⟩) (pre_V hKX hP hD (ci := 5) (q0 := 7) rfl rfl [7] rfl (by decide) rfl) rfl rfl hl.1 rfl (lv_room (Nat.le_of_ble_eq_true rfl)) dX11_yard_20 ⟨(Nat.le_of_ble_eq_true rfl), (Nat.le_of_ble_eq_true rfl)⟩) hP hD hS hA [7] [0, 1, 2, 3, 4, 5, 6, 8, 9, 10, 11] rfl rfl (by decide) (by decide) (fun u21 H locs _ hP hD hS => ?_)
      have hP : va_P D vwCl [(xc2 cy xh xq), (xc3 cy xh xq), (xc4 cy xh xq), (xc6 cy xh xq), (xc8 cy xh xq), (xc15 cy xh xq), (xc17 cy xh xq), (xc0 cy xh xq), (xc1 cy xh xq), (xc13 cy xh xq), (xc14 cy xh xq), ((xq 18), .inr (5, [.ref (xq 19), .int 0, .int 0]))] H := hP
      have hD : va_D A [(xc2 cy xh xq), (xc3 cy xh xq), (xc4 cy xh xq), (xc6 cy xh xq), (xc8 cy xh xq), (xc15 cy xh xq), (xc17 cy xh xq), (xc0 cy xh xq), (xc1 cy xh xq), (xc13 cy xh xq), (xc14 cy xh xq), ((xq 18), .inr (5, [.ref (xq 19), .int 0, .int 0]))] := hD
      refine lv_csv (.null) rfl ?_
      refine cl_i (wr := [(xc2 cy xh xq), (xc3 cy xh xq), (xc4 cy xh xq), (xc6 cy xh xq), (xc8 cy xh xq), (xc15 cy xh xq), (xc17 cy xh xq), (xc0 cy xh xq), (xc1 cy xh xq), (xc13 cy xh xq), (xc14 cy xh xq), ((xq 18), .inr (5, [.ref (xq 19), .int 0, .int 0]))]) (va_runS (As := [.null]) (rest := []) ⟨hx, hb, hml, hown, hts⟩ (c_numberOf l D cy  _) (va_cwS 1 hts gX11_yard_X11_numberOf rfl rfl rfl (by decide +kernel) ⟨(Nat.le_of_ble_eq_true rfl), (Nat.le_of_ble_eq_true rfl)⟩) (pre_S hKX hP hD [] rfl (by decide) rfl) rfl rfl hl.1 rfl (lv_room (Nat.le_of_ble_eq_true rfl)) dX11_yard_23 ⟨(Nat.le_of_ble_eq_true rfl), (Nat.le_of_ble_eq_true rfl)⟩) hP hD hS hA [] [0, 1, 2, 3, 4, 5, 6, 7, 8, 9, 10, 11] rfl rfl (by decide) (by decide) (fun u22 H locs _ hP hD hS => ?_)
      have hP : va_P D vwCl [(xc2 cy xh xq), (xc3 cy xh xq), (xc4 cy xh xq), (xc6 cy xh xq), (xc8 cy xh xq), (xc15 cy xh xq), (xc17 cy xh xq), (xc0 cy xh xq), (xc1 cy xh xq), (xc13 cy xh xq), (xc14 cy xh xq), ((xq 18), .inr (5, [.ref (xq 19), .int 0, .int 0]))] H := hP
      have hD : va_D A [(xc2 cy xh xq), (xc3 cy xh xq), (xc4 cy xh xq), (xc6 cy xh xq), (xc8 cy xh xq), (xc15 cy xh xq), (xc17 cy xh xq), (xc0 cy xh xq), (xc1 cy xh xq), (xc13 cy xh xq), (xc14 cy xh xq), ((xq 18), .inr (5, [.ref (xq 19), .int 0, .int 0]))] := hD
      exact en_i hx hb hr hlocks () rfl trivial (hP.sub [] rfl) (hD.sub [] (by decide) rfl) hS (Nat.le_of_ble_eq_true rfl) (Nat.le_of_ble_eq_true rfl) dX11_yard_26
    · refine lv_aload_n hx hb dX11_yard_0 rfl (lv_at hl 0 rfl) ?_
      refine lv_iload_n hx hb dX11_yard_1 rfl (lv_at hl 1 rfl) ?_
      refine lv_iload_n hx hb dX11_yard_2 rfl (lv_at hl 2 rfl) ?_
      refine cl_q (wr := [(xc0 cy xh xq), (xc1 cy xh xq), (xc2 cy xh xq), (xc3 cy xh xq), (xc4 cy xh xq), (xc6 cy xh xq), (xc8 cy xh xq), (xc13 cy xh xq), (xc14 cy xh xq), (xc15 cy xh xq), (xc17 cy xh xq), (xc19 cy xh xq)]) (va_runV (As := [.int 1, .int xt]) (rest := []) ⟨hx, hb, hml, hown, hts⟩ (c_yardRow_t l D cy xh _ 1 xt o13 _) (cwV 2 hts gX11_yard_X11_yardRow rfl rfl rfl (by decide +kernel) ⟨(Nat.le_of_ble_eq_true rfl), (Nat.le_of_ble_eq_true rfl)⟩) (pre_V hKX hP hD (ci := 11) (q0 := 0) rfl rfl [] rfl (by decide) rfl) rfl rfl hl.1 rfl (lv_room (Nat.le_of_ble_eq_true rfl)) dX11_yard_3 ⟨(Nat.le_of_ble_eq_true rfl), (Nat.le_of_ble_eq_true rfl)⟩) hP hD hS hA [] [0, 1, 2, 3, 4, 5, 6, 7, 8, 9, 10, 11] rfl rfl (by decide) (by decide) (fun u23 H locs _ hP hD hS => ?_)
      have hP : va_P D vwCl [(xc0 cy xh xq), (xc1 cy xh xq), (xc2 cy xh xq), (xc3 cy xh xq), (xc4 cy xh xq), (xc6 cy xh xq), (xc8 cy xh xq), (xc13 cy xh xq), (xc14 cy xh xq), (xc15 cy xh xq), (xc17 cy xh xq), (xc19 cy xh xq)] H := hP
      have hD : va_D A [(xc0 cy xh xq), (xc1 cy xh xq), (xc2 cy xh xq), (xc3 cy xh xq), (xc4 cy xh xq), (xc6 cy xh xq), (xc8 cy xh xq), (xc13 cy xh xq), (xc14 cy xh xq), (xc15 cy xh xq), (xc17 cy xh xq), (xc19 cy xh xq)] := hD
      refine lv_csv (.null) rfl ?_
      refine lv_astoreN (lv' := [(4, .null), (0, .ref xh), (1, .int 1), (2, .int xt), (3, .int xi)]) hx hb dX11_yard_6 hl (by decide) rfl (fun ls hl => ?_)
      refine lv_aloadN hx hb dX11_yard_8 (lv_at hl 0 rfl) ?_
      refine lv_ifnonnullN hx hb dX11_yard_10 ?_
      refine lv_iconst (v := (-1)) hx hb dX11_yard_13 (by decide) ?_
      refine lv_goto (tgt := 26) hx hb dX11_yard_14 (by decide) ?_
      exact en_i hx hb hr hlocks () rfl trivial (hP.sub [] rfl) (hD.sub [] (by decide) rfl) hS (Nat.le_of_ble_eq_true rfl) (Nat.le_of_ble_eq_true rfl) dX11_yard_26
  · refine lv_aload_n hx hb dX11_yard_0 rfl (lv_at hl 0 rfl) ?_
    refine lv_iload_n hx hb dX11_yard_1 rfl (lv_at hl 1 rfl) ?_
    refine lv_iload_n hx hb dX11_yard_2 rfl (lv_at hl 2 rfl) ?_
    refine cl_q (wr := [(xc0 cy xh xq), (xc1 cy xh xq), (xc2 cy xh xq), (xc3 cy xh xq), (xc4 cy xh xq), (xc6 cy xh xq), (xc8 cy xh xq), (xc13 cy xh xq), (xc14 cy xh xq), (xc15 cy xh xq), (xc17 cy xh xq), (xc19 cy xh xq)]) (va_runV (As := [.int xs, .int xt]) (rest := []) ⟨hx, hb, hml, hown, hts⟩ (c_yardRow_s l D cy xh _ xs xt o1 _) (cwV 2 hts gX11_yard_X11_yardRow rfl rfl rfl (by decide +kernel) ⟨(Nat.le_of_ble_eq_true rfl), (Nat.le_of_ble_eq_true rfl)⟩) (pre_V hKX hP hD (ci := 11) (q0 := 0) rfl rfl [] rfl (by decide) rfl) rfl rfl hl.1 rfl (lv_room (Nat.le_of_ble_eq_true rfl)) dX11_yard_3 ⟨(Nat.le_of_ble_eq_true rfl), (Nat.le_of_ble_eq_true rfl)⟩) hP hD hS hA [] [0, 1, 2, 3, 4, 5, 6, 7, 8, 9, 10, 11] rfl rfl (by decide) (by decide) (fun u24 H locs _ hP hD hS => ?_)
    have hP : va_P D vwCl [(xc0 cy xh xq), (xc1 cy xh xq), (xc2 cy xh xq), (xc3 cy xh xq), (xc4 cy xh xq), (xc6 cy xh xq), (xc8 cy xh xq), (xc13 cy xh xq), (xc14 cy xh xq), (xc15 cy xh xq), (xc17 cy xh xq), (xc19 cy xh xq)] H := hP
    have hD : va_D A [(xc0 cy xh xq), (xc1 cy xh xq), (xc2 cy xh xq), (xc3 cy xh xq), (xc4 cy xh xq), (xc6 cy xh xq), (xc8 cy xh xq), (xc13 cy xh xq), (xc14 cy xh xq), (xc15 cy xh xq), (xc17 cy xh xq), (xc19 cy xh xq)] := hD
    refine lv_csv (.null) rfl ?_
    refine lv_astoreN (lv' := [(4, .null), (0, .ref xh), (1, .int xs), (2, .int xt), (3, .int xi)]) hx hb dX11_yard_6 hl (by decide) rfl (fun ls hl => ?_)
    refine lv_aloadN hx hb dX11_yard_8 (lv_at hl 0 rfl) ?_
    refine lv_ifnonnullN hx hb dX11_yard_10 ?_
    refine lv_iconst (v := (-1)) hx hb dX11_yard_13 (by decide) ?_
    refine lv_goto (tgt := 26) hx hb dX11_yard_14 (by decide) ?_
    exact en_i hx hb hr hlocks () rfl trivial (hP.sub [] rfl) (hD.sub [] (by decide) rfl) hS (Nat.le_of_ble_eq_true rfl) (Nat.le_of_ble_eq_true rfl) dX11_yard_26
theorem iw_X11_of_X11 : ∀ w ∈ wsX110, w ∈ wsX11_of := by decide +kernel
set_option maxHeartbeats 4000000 in
set_option maxRecDepth 100000 in
theorem c_of (l : Launch) (D : va_G) (cy : Nat → ClassId) (xh : Nat) (xq : Nat → Nat) (xw : Int32) (xk : Int32) (sz : Nat) : Met l yX11_of wsX11_of ({ frames := 1, cells := 0, slots := 0, locals := 22 }) (wPre D cy [.ref xh, .int xw, .int xk] sz [(xc0 cy xh xq)]) (wQi D (-1) (fun _ : Unit => True) (fun _u : Unit => []) (va_A [(xc0 cy xh xq)] sz)) 0 0 (va_A [(xc0 cy xh xq)] sz) := by
  refine met_go (y := yX11_of) (ws := wsX11_of) (av := [.ref xh, .int xw, .int xk]) (cc := cX11_of) (maxL := 4) (ret := (some .int)) (Qc := fun A => wQi D (-1) (fun _ : Unit => True) (fun _u : Unit => []) A) (by decide) rfl (Nat.le_of_ble_eq_true rfl) ?_
  intro p e s m below meth c ls A hx hb hr hml hown hts hlocks hname hKX hP hD hA hS hl
  have hown : s.vm.findClass RX11 = some m.cls := hown
  have hl : lv_has ls 4 [(0, .ref xh), (1, .int xw), (2, .int xk)] := hl
  have hi : wi xw 0 (-1) = 0 := wi_emp xw
  refine lv_iload_n hx hb dX11_of_0 rfl (lv_at hl 1 rfl) ?_
  refine lv_iconst (v := 0) hx hb dX11_of_1 (by decide) ?_
  refine lv_aload_n hx hb dX11_of_2 rfl (lv_at hl 0 rfl) ?_
  refine va_get (D := D) (ci := 11) (v := .int 0) (C := RX11) (T := TX11) (N := 18) hx hb hts iw_X11_of_X11 hown hKX.1 hP 0 rfl rfl 9 (by decide) (hts (.fieldLink RX11 63 "TrainFerry" "wagonsCome" "I") (by decide +kernel)) (fun _ h9 => h9) rfl dX11_of_3 ?_
  refine lv_iconst (v := 1) hx hb dX11_of_6 (by decide) ?_
  refine lv_isub hx hb dX11_of_7 ?_
  refine lv_cst (-1) (by decide) ?_
  refine cl_i (wr := [(xc0 cy xh xq)]) (va_runS (As := [.int xw, .int 0, .int (-1)]) (rest := []) ⟨hx, hb, hml, hown, hts⟩ (c_isWithin l D cy xw 0 (-1) _) (va_cwS 3 hts gX11_of_X11_isWithin rfl rfl rfl (by decide +kernel) ⟨(Nat.le_of_ble_eq_true rfl), (Nat.le_of_ble_eq_true rfl)⟩) (pre_S hKX hP hD [] rfl (by decide) rfl) rfl rfl hl.1 rfl (lv_room (Nat.le_of_ble_eq_true rfl)) dX11_of_8 ⟨(Nat.le_of_ble_eq_true rfl), (Nat.le_of_ble_eq_true rfl)⟩) hP hD hS hA [] [0] rfl rfl (by decide) (by decide) (fun u1 H locs _ hP hD hS => ?_)
  have hP : va_P D vwCl [(xc0 cy xh xq)] H := hP
  have hD : va_D A [(xc0 cy xh xq)] := hD
  refine lv_if_ne (tgt := 16) hx hb dX11_of_11 (by decide) (fun c9 => absurd hi c9) (fun _ => ?_)
  refine lv_iconst (v := (-1)) hx hb dX11_of_14 (by decide) ?_
  exact en_i hx hb hr hlocks () rfl trivial (hP.sub [] rfl) (hD.sub [] (by decide) rfl) hS (Nat.le_of_ble_eq_true rfl) (Nat.le_of_ble_eq_true rfl) dX11_of_15
theorem iw_X11_allPaidBy_X11 : ∀ w ∈ wsX110, w ∈ wsX11_allPaidBy := by decide +kernel
set_option maxHeartbeats 4000000 in
set_option maxRecDepth 100000 in
theorem c_paid_0 (l : Launch) (D : va_G) (cy : Nat → ClassId) (xh : Nat) (xq : Nat → Nat) (sz : Nat) : Met l yX11_allPaidBy wsX11_allPaidBy ({ frames := 0, cells := 0, slots := 0, locals := 0 }) (wPre D cy [.ref xh, .int 0] sz [(xc0 cy xh xq)]) (wQl D 0 (fun _ : Unit => True) (fun _u : Unit => [(xc0 cy xh xq)]) (va_A [(xc0 cy xh xq)] sz)) 0 0 (va_A [(xc0 cy xh xq)] sz) := by
  refine met_go (y := yX11_allPaidBy) (ws := wsX11_allPaidBy) (av := [.ref xh, .int 0]) (cc := cX11_allPaidBy) (maxL := 6) (ret := (some .long)) (Qc := fun A => wQl D 0 (fun _ : Unit => True) (fun _u : Unit => [(xc0 cy xh xq)]) A) (by decide) rfl (Nat.le_of_ble_eq_true rfl) ?_
  intro p e s m below meth c ls A hx hb hr hml hown hts hlocks hname hKX hP hD hA hS hl
  have hown : s.vm.findClass RX11 = some m.cls := hown
  have hl : lv_has ls 6 [(0, .ref xh), (1, .int 0)] := hl
  refine lv_lconst (v := 0) hx hb dX11_allPaidBy_0 (by decide) ?_
  refine lv_lstore_n (lv' := [(2, .long 0), (0, .ref xh), (1, .int 0)]) hx hb dX11_allPaidBy_1 rfl hl (by decide) rfl (fun ls hl => ?_)
  refine lv_iconst (v := 0) hx hb dX11_allPaidBy_2 (by decide) ?_
  refine lv_istore (lv' := [(4, .int 0), (2, .long 0), (0, .ref xh), (1, .int 0)]) hx hb dX11_allPaidBy_3 hl (by decide) rfl (fun ls hl => ?_)
  refine lv_iload hx hb dX11_allPaidBy_5 (lv_at hl 0 rfl) ?_
  refine lv_aload_n hx hb dX11_allPaidBy_7 rfl (lv_at hl 2 rfl) ?_
  refine va_get (D := D) (ci := 11) (v := .int 0) (C := RX11) (T := TX11) (N := 18) hx hb hts iw_X11_allPaidBy_X11 hown hKX.1 hP 0 rfl rfl 9 (by decide) (hts (.fieldLink RX11 63 "TrainFerry" "wagonsCome" "I") (by decide +kernel)) (fun _ h9 => h9) rfl dX11_allPaidBy_8 ?_
  refine lv_icmp_ge (tgt := 56) hx hb dX11_allPaidBy_11 (by decide) (fun _ => ?_) (fun c9 => absurd (by decide) c9)
  refine lv_lload_n hx hb dX11_allPaidBy_56 rfl (lv_at hl 1 rfl) ?_
  exact en_l hx hb hr hlocks () rfl trivial (hP.sub [0] rfl) (hD.sub [0] (by decide) rfl) hS (Nat.le_of_ble_eq_true rfl) (Nat.le_of_ble_eq_true rfl) dX11_allPaidBy_57
set_option maxHeartbeats 4000000 in
set_option maxRecDepth 100000 in
theorem c_paid_1 (l : Launch) (D : va_G) (cy : Nat → ClassId) (xh : Nat) (xq : Nat → Nat) (sz : Nat) : Met l yX11_allPaidBy wsX11_allPaidBy ({ frames := 0, cells := 0, slots := 0, locals := 0 }) (wPre D cy [.ref xh, .int 1] sz [(xc0 cy xh xq)]) (wQl D 0 (fun _ : Unit => True) (fun _u : Unit => [(xc0 cy xh xq)]) (va_A [(xc0 cy xh xq)] sz)) 0 0 (va_A [(xc0 cy xh xq)] sz) := by
  refine met_go (y := yX11_allPaidBy) (ws := wsX11_allPaidBy) (av := [.ref xh, .int 1]) (cc := cX11_allPaidBy) (maxL := 6) (ret := (some .long)) (Qc := fun A => wQl D 0 (fun _ : Unit => True) (fun _u : Unit => [(xc0 cy xh xq)]) A) (by decide) rfl (Nat.le_of_ble_eq_true rfl) ?_
  intro p e s m below meth c ls A hx hb hr hml hown hts hlocks hname hKX hP hD hA hS hl
  have hown : s.vm.findClass RX11 = some m.cls := hown
  have hl : lv_has ls 6 [(0, .ref xh), (1, .int 1)] := hl
  refine lv_lconst (v := 0) hx hb dX11_allPaidBy_0 (by decide) ?_
  refine lv_lstore_n (lv' := [(2, .long 0), (0, .ref xh), (1, .int 1)]) hx hb dX11_allPaidBy_1 rfl hl (by decide) rfl (fun ls hl => ?_)
  refine lv_iconst (v := 0) hx hb dX11_allPaidBy_2 (by decide) ?_
  refine lv_istore (lv' := [(4, .int 0), (2, .long 0), (0, .ref xh), (1, .int 1)]) hx hb dX11_allPaidBy_3 hl (by decide) rfl (fun ls hl => ?_)
  refine lv_iload hx hb dX11_allPaidBy_5 (lv_at hl 0 rfl) ?_
  refine lv_aload_n hx hb dX11_allPaidBy_7 rfl (lv_at hl 2 rfl) ?_
  refine va_get (D := D) (ci := 11) (v := .int 0) (C := RX11) (T := TX11) (N := 18) hx hb hts iw_X11_allPaidBy_X11 hown hKX.1 hP 0 rfl rfl 9 (by decide) (hts (.fieldLink RX11 63 "TrainFerry" "wagonsCome" "I") (by decide +kernel)) (fun _ h9 => h9) rfl dX11_allPaidBy_8 ?_
  refine lv_icmp_ge (tgt := 56) hx hb dX11_allPaidBy_11 (by decide) (fun _ => ?_) (fun c9 => absurd (by decide) c9)
  refine lv_lload_n hx hb dX11_allPaidBy_56 rfl (lv_at hl 1 rfl) ?_
  exact en_l hx hb hr hlocks () rfl trivial (hP.sub [0] rfl) (hD.sub [0] (by decide) rfl) hS (Nat.le_of_ble_eq_true rfl) (Nat.le_of_ble_eq_true rfl) dX11_allPaidBy_57
theorem iw_X11_count_X11 : ∀ w ∈ wsX110, w ∈ wsX11_count := by decide +kernel
theorem iw_X11_count_X6 : ∀ w ∈ wsX60, w ∈ wsX11_count := by decide +kernel
theorem iw_X11_count_X1 : ∀ w ∈ wsX10, w ∈ wsX11_count := by decide +kernel
theorem iw_X11_count_X9 : ∀ w ∈ wsX90, w ∈ wsX11_count := by decide +kernel
set_option maxHeartbeats 4000000 in
set_option maxRecDepth 100000 in
theorem c_count (l : Launch) (D : va_G) (cy : Nat → ClassId) (xh : Nat) (xq : Nat → Nat) (xw : Int32) (sz : Nat) : Met l yX11_count wsX11_count ({ frames := 2, cells := 0, slots := 0, locals := 43 }) (wPre D cy [.ref xh, .int xw] sz [(xc0 cy xh xq), (xc40 cy xh xq), (xc41 cy xh xq), (xc44 cy xh xq)]) (wQl D (fCount xw) (fun _ : Unit => True) (fun _u : Unit => []) (va_A [(xc0 cy xh xq), (xc40 cy xh xq), (xc41 cy xh xq), (xc44 cy xh xq)] sz)) 0 0 (va_A [(xc0 cy xh xq), (xc40 cy xh xq), (xc41 cy xh xq), (xc44 cy xh xq)] sz) := by
  refine met_go (y := yX11_count) (ws := wsX11_count) (av := [.ref xh, .int xw]) (cc := cX11_count) (maxL := 2) (ret := (some .long)) (Qc := fun A => wQl D (fCount xw) (fun _ : Unit => True) (fun _u : Unit => []) A) (by decide) rfl (Nat.le_of_ble_eq_true rfl) ?_
  intro p e s m below meth c ls A hx hb hr hml hown hts hlocks hname hKX hP hD hA hS hl
  have hown : s.vm.findClass RX11 = some m.cls := hown
  have hl : lv_has ls 2 [(0, .ref xh), (1, .int xw)] := hl
  rcases sp9 xw with rfl | rfl | rfl | rfl | rfl | rfl | rfl | rfl | rfl | ho
  · refine lv_iload_n hx hb dX11_count_0 rfl (lv_at hl 1 rfl) ?_
    refine lv_tableIn (off := 51) (tgt := 52) hx hb dX11_count_1 (by decide) (by decide) (by decide) (by decide) ?_
    refine lv_aload_n hx hb dX11_count_52 rfl (lv_at hl 0 rfl) ?_
    refine va_get (D := D) (ci := 11) (v := .int 0) (C := RX11) (T := TX11) (N := 18) hx hb hts iw_X11_count_X11 hown hKX.1 hP 0 rfl rfl 10 (by decide) (hts (.fieldLink RX11 67 "TrainFerry" "now" "I") (by decide +kernel)) (fun _ h9 => h9) rfl dX11_count_53 ?_
    refine lv_i2l (v := 0) hx hb dX11_count_56 (by decide) ?_
    exact en_l hx hb hr hlocks () (by decide) trivial (hP.sub [] rfl) (hD.sub [] (by decide) rfl) hS (Nat.le_of_ble_eq_true rfl) (Nat.le_of_ble_eq_true rfl) dX11_count_57
  · refine lv_iload_n hx hb dX11_count_0 rfl (lv_at hl 1 rfl) ?_
    refine lv_tableIn (off := 57) (tgt := 58) hx hb dX11_count_1 (by decide) (by decide) (by decide) (by decide) ?_
    refine lv_aload_n hx hb dX11_count_58 rfl (lv_at hl 0 rfl) ?_
    refine va_get (D := D) (ci := 11) (v := .int 0) (C := RX11) (T := TX11) (N := 18) hx hb hts iw_X11_count_X11 hown hKX.1 hP 0 rfl rfl 9 (by decide) (hts (.fieldLink RX11 63 "TrainFerry" "wagonsCome" "I") (by decide +kernel)) (fun _ h9 => h9) rfl dX11_count_59 ?_
    refine lv_i2l (v := 0) hx hb dX11_count_62 (by decide) ?_
    exact en_l hx hb hr hlocks () (by decide) trivial (hP.sub [] rfl) (hD.sub [] (by decide) rfl) hS (Nat.le_of_ble_eq_true rfl) (Nat.le_of_ble_eq_true rfl) dX11_count_63
  · refine lv_iload_n hx hb dX11_count_0 rfl (lv_at hl 1 rfl) ?_
    refine lv_tableIn (off := 63) (tgt := 64) hx hb dX11_count_1 (by decide) (by decide) (by decide) (by decide) ?_
    refine lv_aload_n hx hb dX11_count_64 rfl (lv_at hl 0 rfl) ?_
    refine va_get (D := D) (ci := 11) (v := .ref (xq 43)) (C := RX11) (T := TX11) (N := 18) hx hb hts iw_X11_count_X11 hown hKX.1 hP 0 rfl rfl 5 (by decide) (hts (.fieldLink RX11 47 "TrainFerry" "agreed" "LTrainFerry$Schedule;") (by decide +kernel)) (fun _ h9 => h9) rfl dX11_count_65 ?_
    refine va_get (D := D) (ci := 6) (v := .int 0) (C := RX6) (T := TX6) (N := 4) hx hb hts iw_X11_count_X6 hown hKX.1 hP 3 rfl rfl 2 (by decide) (hts (.fieldLink RX11 144 "TrainFerry$Schedule" "size" "I") (by decide +kernel)) (fun _ h9 => h9) rfl dX11_count_68 ?_
    refine lv_i2l (v := 0) hx hb dX11_count_71 (by decide) ?_
    exact en_l hx hb hr hlocks () (by decide) trivial (hP.sub [] rfl) (hD.sub [] (by decide) rfl) hS (Nat.le_of_ble_eq_true rfl) (Nat.le_of_ble_eq_true rfl) dX11_count_72
  · refine lv_iload_n hx hb dX11_count_0 rfl (lv_at hl 1 rfl) ?_
    refine lv_tableIn (off := 72) (tgt := 73) hx hb dX11_count_1 (by decide) (by decide) (by decide) (by decide) ?_
    refine lv_aload_n hx hb dX11_count_73 rfl (lv_at hl 0 rfl) ?_
    refine va_get (D := D) (ci := 11) (v := .ref (xq 43)) (C := RX11) (T := TX11) (N := 18) hx hb hts iw_X11_count_X11 hown hKX.1 hP 0 rfl rfl 5 (by decide) (hts (.fieldLink RX11 47 "TrainFerry" "agreed" "LTrainFerry$Schedule;") (by decide +kernel)) (fun _ h9 => h9) rfl dX11_count_74 ?_
    refine lv_aload_n hx hb dX11_count_77 rfl (lv_at hl 0 rfl) ?_
    refine va_get (D := D) (ci := 11) (v := .int 0) (C := RX11) (T := TX11) (N := 18) hx hb hts iw_X11_count_X11 hown hKX.1 hP 0 rfl rfl 10 (by decide) (hts (.fieldLink RX11 67 "TrainFerry" "now" "I") (by decide +kernel)) (fun _ h9 => h9) rfl dX11_count_78 ?_
    refine lv_iconst (v := (-1)) hx hb dX11_count_81 (by decide) ?_
    refine cl_i (wr := [(xc0 cy xh xq), (xc40 cy xh xq), (xc41 cy xh xq)]) (va_runV (As := [.int 0, .int (-1)]) (rest := []) ⟨hx, hb, hml, hown, hts⟩ (c_valueIn l D cy (xq 43) (xq 44) (xq 45) 0 (-1) _) (cwV 2 hts gX11_count_X6_valueIn rfl rfl rfl (by decide +kernel) ⟨(Nat.le_of_ble_eq_true rfl), (Nat.le_of_ble_eq_true rfl)⟩) (pre_V hKX hP hD (ci := 6) (q0 := 3) rfl rfl [3] rfl (by decide) rfl) rfl rfl hl.1 rfl (lv_room (Nat.le_of_ble_eq_true rfl)) dX11_count_82 ⟨(Nat.le_of_ble_eq_true rfl), (Nat.le_of_ble_eq_true rfl)⟩) hP hD hS hA [3] [0, 1, 2] rfl rfl (by decide) (by decide) (fun u1 H locs _ hP hD hS => ?_)
    have hP : va_P D vwCl [(xc0 cy xh xq), (xc40 cy xh xq), (xc41 cy xh xq), ((xq 43), .inr (6, [.ref (xq 44), .ref (xq 45), .int 0, .int (-1)]))] H := hP
    have hD : va_D A [(xc0 cy xh xq), (xc40 cy xh xq), (xc41 cy xh xq), ((xq 43), .inr (6, [.ref (xq 44), .ref (xq 45), .int 0, .int (-1)]))] := hD
    refine lv_i2l (v := (-1)) hx hb dX11_count_85 (by decide) ?_
    exact en_l hx hb hr hlocks () (by decide) trivial (hP.sub [] rfl) (hD.sub [] (by decide) rfl) hS (Nat.le_of_ble_eq_true rfl) (Nat.le_of_ble_eq_true rfl) dX11_count_86
  · refine lv_iload_n hx hb dX11_count_0 rfl (lv_at hl 1 rfl) ?_
    refine lv_tableIn (off := 86) (tgt := 87) hx hb dX11_count_1 (by decide) (by decide) (by decide) (by decide) ?_
    refine lv_aload_n hx hb dX11_count_87 rfl (lv_at hl 0 rfl) ?_
    refine va_get (D := D) (ci := 11) (v := .ref (xq 39)) (C := RX11) (T := TX11) (N := 18) hx hb hts iw_X11_count_X11 hown hKX.1 hP 0 rfl rfl 3 (by decide) (hts (.fieldLink RX11 32 "TrainFerry" "reader" "LTrainFerry$AgreementReader;") (by decide +kernel)) (fun _ h9 => h9) rfl dX11_count_88 ?_
    refine va_get (D := D) (ci := 1) (v := .ref (xq 40)) (C := RX1) (T := TX1) (N := 6) hx hb hts iw_X11_count_X1 hown hKX.1 hP 1 rfl rfl 0 (by decide) (hts (.fieldLink RX11 156 "TrainFerry$AgreementReader" "tape" "LTrainFerry$Tape;") (by decide +kernel)) (fun _ h9 => h9) rfl dX11_count_91 ?_
    refine va_get (D := D) (ci := 9) (v := .int 0) (C := RX9) (T := TX9) (N := 2) hx hb hts iw_X11_count_X9 hown hKX.1 hP 2 rfl rfl 1 (by decide) (hts (.fieldLink RX11 160 "TrainFerry$Tape" "size" "I") (by decide +kernel)) (fun _ h9 => h9) rfl dX11_count_94 ?_
    refine lv_i2l (v := 0) hx hb dX11_count_97 (by decide) ?_
    exact en_l hx hb hr hlocks () (by decide) trivial (hP.sub [] rfl) (hD.sub [] (by decide) rfl) hS (Nat.le_of_ble_eq_true rfl) (Nat.le_of_ble_eq_true rfl) dX11_count_98
  · refine lv_iload_n hx hb dX11_count_0 rfl (lv_at hl 1 rfl) ?_
    refine lv_tableIn (off := 98) (tgt := 99) hx hb dX11_count_1 (by decide) (by decide) (by decide) (by decide) ?_
    refine lv_aload_n hx hb dX11_count_99 rfl (lv_at hl 0 rfl) ?_
    refine va_get (D := D) (ci := 11) (v := .int 0) (C := RX11) (T := TX11) (N := 18) hx hb hts iw_X11_count_X11 hown hKX.1 hP 0 rfl rfl 15 (by decide) (hts (.fieldLink RX11 82 "TrainFerry" "sea" "I") (by decide +kernel)) (fun _ h9 => h9) rfl dX11_count_100 ?_
    refine lv_i2l (v := 0) hx hb dX11_count_103 (by decide) ?_
    exact en_l hx hb hr hlocks () (by decide) trivial (hP.sub [] rfl) (hD.sub [] (by decide) rfl) hS (Nat.le_of_ble_eq_true rfl) (Nat.le_of_ble_eq_true rfl) dX11_count_104
  · refine lv_iload_n hx hb dX11_count_0 rfl (lv_at hl 1 rfl) ?_
    refine lv_tableIn (off := 104) (tgt := 105) hx hb dX11_count_1 (by decide) (by decide) (by decide) (by decide) ?_
    refine lv_aload_n hx hb dX11_count_105 rfl (lv_at hl 0 rfl) ?_
    refine lv_iconst (v := 0) hx hb dX11_count_106 (by decide) ?_
    refine cl_l (wr := [(xc40 cy xh xq), (xc41 cy xh xq), (xc44 cy xh xq)]) (va_runV (As := [.int 0]) (rest := []) ⟨hx, hb, hml, hown, hts⟩ (c_paid_0 l D cy xh xq _) (cwV 1 hts gX11_count_X11_allPaidBy rfl rfl rfl (by decide +kernel) ⟨(Nat.le_of_ble_eq_true rfl), (Nat.le_of_ble_eq_true rfl)⟩) (pre_V hKX hP hD (ci := 11) (q0 := 0) rfl rfl [0] rfl (by decide) rfl) rfl rfl hl.1 rfl (lv_room (Nat.le_of_ble_eq_true rfl)) dX11_count_107 ⟨(Nat.le_of_ble_eq_true rfl), (Nat.le_of_ble_eq_true rfl)⟩) hP hD hS hA [0] [1, 2, 3] rfl rfl (by decide) (by decide) (fun u2 H locs _ hP hD hS => ?_)
    have hP : va_P D vwCl [(xc40 cy xh xq), (xc41 cy xh xq), (xc44 cy xh xq), (xc0 cy xh xq)] H := hP
    have hD : va_D A [(xc40 cy xh xq), (xc41 cy xh xq), (xc44 cy xh xq), (xc0 cy xh xq)] := hD
    exact en_l hx hb hr hlocks () (by decide) trivial (hP.sub [] rfl) (hD.sub [] (by decide) rfl) hS (Nat.le_of_ble_eq_true rfl) (Nat.le_of_ble_eq_true rfl) dX11_count_110
  · refine lv_iload_n hx hb dX11_count_0 rfl (lv_at hl 1 rfl) ?_
    refine lv_tableIn (off := 110) (tgt := 111) hx hb dX11_count_1 (by decide) (by decide) (by decide) (by decide) ?_
    refine lv_aload_n hx hb dX11_count_111 rfl (lv_at hl 0 rfl) ?_
    refine lv_iconst (v := 1) hx hb dX11_count_112 (by decide) ?_
    refine cl_l (wr := [(xc40 cy xh xq), (xc41 cy xh xq), (xc44 cy xh xq)]) (va_runV (As := [.int 1]) (rest := []) ⟨hx, hb, hml, hown, hts⟩ (c_paid_1 l D cy xh xq _) (cwV 1 hts gX11_count_X11_allPaidBy rfl rfl rfl (by decide +kernel) ⟨(Nat.le_of_ble_eq_true rfl), (Nat.le_of_ble_eq_true rfl)⟩) (pre_V hKX hP hD (ci := 11) (q0 := 0) rfl rfl [0] rfl (by decide) rfl) rfl rfl hl.1 rfl (lv_room (Nat.le_of_ble_eq_true rfl)) dX11_count_113 ⟨(Nat.le_of_ble_eq_true rfl), (Nat.le_of_ble_eq_true rfl)⟩) hP hD hS hA [0] [1, 2, 3] rfl rfl (by decide) (by decide) (fun u3 H locs _ hP hD hS => ?_)
    have hP : va_P D vwCl [(xc40 cy xh xq), (xc41 cy xh xq), (xc44 cy xh xq), (xc0 cy xh xq)] H := hP
    have hD : va_D A [(xc40 cy xh xq), (xc41 cy xh xq), (xc44 cy xh xq), (xc0 cy xh xq)] := hD
    exact en_l hx hb hr hlocks () (by decide) trivial (hP.sub [] rfl) (hD.sub [] (by decide) rfl) hS (Nat.le_of_ble_eq_true rfl) (Nat.le_of_ble_eq_true rfl) dX11_count_116
  · refine lv_iload_n hx hb dX11_count_0 rfl (lv_at hl 1 rfl) ?_
    refine lv_tableIn (off := 116) (tgt := 117) hx hb dX11_count_1 (by decide) (by decide) (by decide) (by decide) ?_
    refine lv_aload_n hx hb dX11_count_117 rfl (lv_at hl 0 rfl) ?_
    refine va_get (D := D) (ci := 11) (v := .int 0) (C := RX11) (T := TX11) (N := 18) hx hb hts iw_X11_count_X11 hown hKX.1 hP 0 rfl rfl 14 (by decide) (hts (.fieldLink RX11 79 "TrainFerry" "sailings" "I") (by decide +kernel)) (fun _ h9 => h9) rfl dX11_count_118 ?_
    refine lv_i2l (v := 0) hx hb dX11_count_121 (by decide) ?_
    exact en_l hx hb hr hlocks () (by decide) trivial (hP.sub [] rfl) (hD.sub [] (by decide) rfl) hS (Nat.le_of_ble_eq_true rfl) (Nat.le_of_ble_eq_true rfl) dX11_count_122
  · refine lv_iload_n hx hb dX11_count_0 rfl (lv_at hl 1 rfl) ?_
    refine lv_tableOut (tgt := 123) hx hb dX11_count_1 ho (by decide) ?_
    refine lv_ldc2 (v := (-1)) hx hb hown (hts (.constantLong RX11 300 (-1)) (by decide +kernel)) dX11_count_123 ?_
    exact en_l hx hb hr hlocks () (fCount_out ho) trivial (hP.sub [] rfl) (hD.sub [] (by decide) rfl) hS (Nat.le_of_ble_eq_true rfl) (Nat.le_of_ble_eq_true rfl) dX11_count_126
