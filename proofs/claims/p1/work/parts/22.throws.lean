/-- what is left behind a throw -/
def xQ (A : Nat → Prop) : String → State → State → Prop := vx_X (fun _ : Unit => True) (fun E _ _ => E = nsE) A
set_option maxHeartbeats 4000000 in
set_option maxRecDepth 100000 in
theorem c_isOpen_0 (l : Launch) (D : va_G) (cy : Nat → ClassId) (xh : Nat) (xq : Nat → Nat) (sz : Nat) : Met l yX11_isOpen wsX11_isOpen ({ frames := 2, cells := 0, slots := 0, locals := 45 }) (wPre D cy [.ref xh, .int 0] sz [(xc0 cy xh xq), (xc1 cy xh xq), (xc2 cy xh xq), (xc10 cy xh xq)]) (wQi D 0 (fun _ : Unit => True) (fun _u : Unit => []) (va_A [(xc0 cy xh xq), (xc1 cy xh xq), (xc2 cy xh xq), (xc10 cy xh xq)] sz)) 0 0 (va_A [(xc0 cy xh xq), (xc1 cy xh xq), (xc2 cy xh xq), (xc10 cy xh xq)] sz) := by
  refine met_go (y := yX11_isOpen) (ws := wsX11_isOpen) (av := [.ref xh, .int 0]) (cc := cX11_isOpen) (maxL := 2) (ret := (some .boolean)) (Qc := fun A => wQi D 0 (fun _ : Unit => True) (fun _u : Unit => []) A) (by decide) rfl (Nat.le_of_ble_eq_true rfl) ?_
  intro p e s m below meth c ls A hx hb hr hml hown hts hlocks hname hKX hP hD hA hS hl
  have hown : s.vm.findClass RX11 = some m.cls := hown
  have hl : lv_has ls 2 [(0, .ref xh), (1, .int 0)] := hl
  refine lv_iload_n hx hb dX11_isOpen_0 rfl (lv_at hl 1 rfl) ?_
  refine cl_i (wr := [(xc0 cy xh xq), (xc1 cy xh xq), (xc2 cy xh xq), (xc10 cy xh xq)]) (va_runS (As := [.int 0]) (rest := []) ⟨hx, hb, hml, hown, hts⟩ (c_isShore l D cy 0 _) (va_cwS 1 hts gX11_isOpen_X11_isShore rfl rfl rfl (by decide +kernel) ⟨(Nat.le_of_ble_eq_true rfl), (Nat.le_of_ble_eq_true rfl)⟩) (pre_S hKX hP hD [] rfl (by decide) rfl) rfl rfl hl.1 rfl (lv_room (Nat.le_of_ble_eq_true rfl)) dX11_isOpen_1 ⟨(Nat.le_of_ble_eq_true rfl), (Nat.le_of_ble_eq_true rfl)⟩) hP hD hS hA [] [0, 1, 2, 3] rfl rfl (by decide) (by decide) (fun u1 H locs _ hP hD hS => ?_)
  have hP : va_P D vwCl [(xc0 cy xh xq), (xc1 cy xh xq), (xc2 cy xh xq), (xc10 cy xh xq)] H := hP
  have hD : va_D A [(xc0 cy xh xq), (xc1 cy xh xq), (xc2 cy xh xq), (xc10 cy xh xq)] := hD
  refine lv_cst 1 (by decide) ?_
  refine lv_if_ne (tgt := 18) hx hb dX11_isOpen_4 (by decide) (fun _ => ?_) (fun c9 => absurd c9 (by decide))
  refine lv_aload_n hx hb dX11_isOpen_18 rfl (lv_at hl 0 rfl) ?_
  refine lv_iload_n hx hb dX11_isOpen_19 rfl (lv_at hl 1 rfl) ?_
  refine cl_i (wr := []) (va_runV (As := [.int 0]) (rest := []) ⟨hx, hb, hml, hown, hts⟩ (c_rampIsOpen_0 l D cy xh xq 0 _) (cwV 1 hts gX11_isOpen_X11_rampIsOpen rfl rfl rfl (by decide +kernel) ⟨(Nat.le_of_ble_eq_true rfl), (Nat.le_of_ble_eq_true rfl)⟩) (pre_V hKX hP hD (ci := 11) (q0 := 0) rfl rfl [0, 1, 2, 3] rfl (by decide) rfl) rfl rfl hl.1 rfl (lv_room (Nat.le_of_ble_eq_true rfl)) dX11_isOpen_20 ⟨(Nat.le_of_ble_eq_true rfl), (Nat.le_of_ble_eq_true rfl)⟩) hP hD hS hA [0, 1, 2, 3] [] rfl rfl (by decide) (by decide) (fun u2 H locs _ hP hD hS => ?_)
  have hP : va_P D vwCl [(xh, .inr (11, [.ref (xq 0), .ref (xq 23), .ref (xq 38), .ref (xq 39), .ref (xq 42), .ref (xq 43), .null, .null, .int 0, .int 0, .int 0, .int 0, .int 0, .int (-1), .int 0, .int 0, .int 5, .int 100])), (xc1 cy xh xq), (xc2 cy xh xq), (xc10 cy xh xq)] H := hP
  have hD : va_D A [(xh, .inr (11, [.ref (xq 0), .ref (xq 23), .ref (xq 38), .ref (xq 39), .ref (xq 42), .ref (xq 43), .null, .null, .int 0, .int 0, .int 0, .int 0, .int 0, .int (-1), .int 0, .int 0, .int 5, .int 100])), (xc1 cy xh xq), (xc2 cy xh xq), (xc10 cy xh xq)] := hD
  exact en_z hx hb hr hlocks rfl () rfl trivial (hP.sub [] rfl) (hD.sub [] (by decide) rfl) hS (Nat.le_of_ble_eq_true rfl) (Nat.le_of_ble_eq_true rfl) dX11_isOpen_23
set_option maxHeartbeats 4000000 in
set_option maxRecDepth 100000 in
theorem c_isOpen_1 (l : Launch) (D : va_G) (cy : Nat → ClassId) (xh : Nat) (xq : Nat → Nat) (sz : Nat) : Met l yX11_isOpen wsX11_isOpen ({ frames := 2, cells := 0, slots := 0, locals := 45 }) (wPre D cy [.ref xh, .int 1] sz [(xc0 cy xh xq), (xc1 cy xh xq), (xc13 cy xh xq), (xc21 cy xh xq)]) (wQi D 0 (fun _ : Unit => True) (fun _u : Unit => []) (va_A [(xc0 cy xh xq), (xc1 cy xh xq), (xc13 cy xh xq), (xc21 cy xh xq)] sz)) 0 0 (va_A [(xc0 cy xh xq), (xc1 cy xh xq), (xc13 cy xh xq), (xc21 cy xh xq)] sz) := by
  refine met_go (y := yX11_isOpen) (ws := wsX11_isOpen) (av := [.ref xh, .int 1]) (cc := cX11_isOpen) (maxL := 2) (ret := (some .boolean)) (Qc := fun A => wQi D 0 (fun _ : Unit => True) (fun _u : Unit => []) A) (by decide) rfl (Nat.le_of_ble_eq_true rfl) ?_
  intro p e s m below meth c ls A hx hb hr hml hown hts hlocks hname hKX hP hD hA hS hl
  have hown : s.vm.findClass RX11 = some m.cls := hown
  have hl : lv_has ls 2 [(0, .ref xh), (1, .int 1)] := hl
  refine lv_iload_n hx hb dX11_isOpen_0 rfl (lv_at hl 1 rfl) ?_
  refine cl_i (wr := [(xc0 cy xh xq), (xc1 cy xh xq), (xc13 cy xh xq), (xc21 cy xh xq)]) (va_runS (As := [.int 1]) (rest := []) ⟨hx, hb, hml, hown, hts⟩ (c_isShore l D cy 1 _) (va_cwS 1 hts gX11_isOpen_X11_isShore rfl rfl rfl (by decide +kernel) ⟨(Nat.le_of_ble_eq_true rfl), (Nat.le_of_ble_eq_true rfl)⟩) (pre_S hKX hP hD [] rfl (by decide) rfl) rfl rfl hl.1 rfl (lv_room (Nat.le_of_ble_eq_true rfl)) dX11_isOpen_1 ⟨(Nat.le_of_ble_eq_true rfl), (Nat.le_of_ble_eq_true rfl)⟩) hP hD hS hA [] [0, 1, 2, 3] rfl rfl (by decide) (by decide) (fun u1 H locs _ hP hD hS => ?_)
  have hP : va_P D vwCl [(xc0 cy xh xq), (xc1 cy xh xq), (xc13 cy xh xq), (xc21 cy xh xq)] H := hP
  have hD : va_D A [(xc0 cy xh xq), (xc1 cy xh xq), (xc13 cy xh xq), (xc21 cy xh xq)] := hD
  refine lv_cst 1 (by decide) ?_
  refine lv_if_ne (tgt := 18) hx hb dX11_isOpen_4 (by decide) (fun _ => ?_) (fun c9 => absurd c9 (by decide))
  refine lv_aload_n hx hb dX11_isOpen_18 rfl (lv_at hl 0 rfl) ?_
  refine lv_iload_n hx hb dX11_isOpen_19 rfl (lv_at hl 1 rfl) ?_
  refine cl_i (wr := []) (va_runV (As := [.int 1]) (rest := []) ⟨hx, hb, hml, hown, hts⟩ (c_rampIsOpen_1 l D cy xh xq 0 _) (cwV 1 hts gX11_isOpen_X11_rampIsOpen rfl rfl rfl (by decide +kernel) ⟨(Nat.le_of_ble_eq_true rfl), (Nat.le_of_ble_eq_true rfl)⟩) (pre_V hKX hP hD (ci := 11) (q0 := 0) rfl rfl [0, 1, 2, 3] rfl (by decide) rfl) rfl rfl hl.1 rfl (lv_room (Nat.le_of_ble_eq_true rfl)) dX11_isOpen_20 ⟨(Nat.le_of_ble_eq_true rfl), (Nat.le_of_ble_eq_true rfl)⟩) hP hD hS hA [0, 1, 2, 3] [] rfl rfl (by decide) (by decide) (fun u2 H locs _ hP hD hS => ?_)
  have hP : va_P D vwCl [(xh, .inr (11, [.ref (xq 0), .ref (xq 23), .ref (xq 38), .ref (xq 39), .ref (xq 42), .ref (xq 43), .null, .null, .int 0, .int 0, .int 0, .int 0, .int 0, .int (-1), .int 0, .int 0, .int 5, .int 100])), (xc1 cy xh xq), (xc13 cy xh xq), (xc21 cy xh xq)] H := hP
  have hD : va_D A [(xh, .inr (11, [.ref (xq 0), .ref (xq 23), .ref (xq 38), .ref (xq 39), .ref (xq 42), .ref (xq 43), .null, .null, .int 0, .int 0, .int 0, .int 0, .int 0, .int (-1), .int 0, .int 0, .int 5, .int 100])), (xc1 cy xh xq), (xc13 cy xh xq), (xc21 cy xh xq)] := hD
  exact en_z hx hb hr hlocks rfl () rfl trivial (hP.sub [] rfl) (hD.sub [] (by decide) rfl) hS (Nat.le_of_ble_eq_true rfl) (Nat.le_of_ble_eq_true rfl) dX11_isOpen_23
set_option maxHeartbeats 4000000 in
set_option maxRecDepth 100000 in
theorem c_isOpen_o (l : Launch) (D : va_G) (cy : Nat → ClassId) (sa sb : Nat) (hl0 : l.stackTraces = false) (xh : Nat) (xq : Nat → Nat) (xs : Int32) (hs : (wi xs 0 1) = 0) (sz : Nat) : vx_Met l yX11_isOpen wsX11_isOpen ({ frames := 6, cells := 1, slots := 6, locals := 100 }) (wPreT D cy sa sb [.ref xh, .int xs] sz [(xc0 cy xh xq)]) (wQi D 0 (fun _ : Unit => False) (fun _u : Unit => []) (va_A [(xc0 cy xh xq)] sz)) (xQ (va_A [(xc0 cy xh xq)] sz)) 1 6 (va_A [(xc0 cy xh xq)] sz) := by
  refine met_goT (y := yX11_isOpen) (ws := wsX11_isOpen) (av := [.ref xh, .int xs]) (cc := cX11_isOpen) (maxL := 2) (ret := (some .boolean)) (Qc := fun A => wQi D 0 (fun _ : Unit => False) (fun _u : Unit => []) A) (XC := fun A => xQ A) (by decide) rfl (Nat.le_of_ble_eq_true rfl) ?_
  intro p e s m below meth c ls A hx hb hr hml hown hts hlocks htab hKX hET hP hD hA hS hl
  have hown : s.vm.findClass RX11 = some m.cls := hown
  have hl : lv_has ls 2 [(0, .ref xh), (1, .int xs)] := hl
  refine lv_iload_n hx hb dX11_isOpen_0 rfl (lv_at hl 1 rfl) ?_
  refine cl_i (wr := [(xc0 cy xh xq)]) (va_runS (As := [.int xs]) (rest := []) ⟨hx, hb, hml, hown, hts⟩ (c_isShore l D cy xs _) (va_cwS 1 hts gX11_isOpen_X11_isShore rfl rfl rfl (by decide +kernel) ⟨(Nat.le_of_ble_eq_true rfl), (Nat.le_of_ble_eq_true rfl)⟩) (pre_S hKX hP hD [] rfl (by decide) rfl) rfl rfl hl.1 rfl (lv_room (Nat.le_of_ble_eq_true rfl)) dX11_isOpen_1 ⟨(Nat.le_of_ble_eq_true rfl), (Nat.le_of_ble_eq_true rfl)⟩) hP hD hS hA [] [0] rfl rfl (by decide) (by decide) (fun u1 H locs _ hP hD hS => ?_)
  have hP : va_P D vwCl [(xc0 cy xh xq)] H := hP
  have hD : va_D A [(xc0 cy xh xq)] := hD
  refine lv_if_ne (tgt := 18) hx hb dX11_isOpen_4 (by decide) (fun c9 => absurd hs c9) (fun _ => ?_)
  exact ns_throw hx hb hl0 hown (hts (.classLink RX11 270 "java/util/NoSuchElementException") (by decide +kernel)) (hts (.initialized "java/util/NoSuchElementException") (by decide +kernel)) hET.2.2.1 (hET.words (fun w9 h9 => hts w9 (List.mem_cons_of_mem _ (List.mem_append_right _ h9)))) hET.1 hET.2.1 hS (hl.1.trans hml.symm) dX11_isOpen_7 dX11_isOpen_10 dX11_isOpen_11 dX11_isOpen_14 dX11_isOpen_17 (fun x9 h9 => (htab x9 h9).elim) (Nat.le_of_ble_eq_true rfl) (Nat.le_of_ble_eq_true rfl) (Nat.le_of_ble_eq_true rfl) (Nat.le_of_ble_eq_true rfl) hlocks (fun t ha hz hk => ⟨(), trivial, rfl, Nat.le_trans hS.1 hz, fun q h1 h2 => (hk q (Nat.lt_of_lt_of_le h1 hS.1)).trans (hS.2.1 q h1 h2)⟩) hS.2.2 (Nat.le_of_ble_eq_true rfl) (Nat.le_of_ble_eq_true rfl)
theorem iw_X11_ferry_X11 : ∀ w ∈ wsX110, w ∈ wsX11_ferry := by decide +kernel
set_option maxHeartbeats 4000000 in
set_option maxRecDepth 100000 in
theorem c_ferry_0 (l : Launch) (D : va_G) (cy : Nat → ClassId) (xh : Nat) (xq : Nat → Nat) (sz : Nat) : Met l yX11_ferry wsX11_ferry ({ frames := 0, cells := 0, slots := 0, locals := 0 }) (wPre D cy [.ref xh, .int 0] sz [(xc0 cy xh xq), (xc24 cy xh xq), (xc34 cy xh xq)]) (wQi D 0 (fun _ : Unit => True) (fun _u : Unit => []) (va_A [(xc0 cy xh xq), (xc24 cy xh xq), (xc34 cy xh xq)] sz)) 0 0 (va_A [(xc0 cy xh xq), (xc24 cy xh xq), (xc34 cy xh xq)] sz) := by
  refine met_go (y := yX11_ferry) (ws := wsX11_ferry) (av := [.ref xh, .int 0]) (cc := cX11_ferry) (maxL := 2) (ret := (some .int)) (Qc := fun A => wQi D 0 (fun _ : Unit => True) (fun _u : Unit => []) A) (by decide) rfl (Nat.le_of_ble_eq_true rfl) ?_
  intro p e s m below meth c ls A hx hb hr hml hown hts hlocks hname hKX hP hD hA hS hl
  have hown : s.vm.findClass RX11 = some m.cls := hown
  have hl : lv_has ls 2 [(0, .ref xh), (1, .int 0)] := hl
  refine lv_iload_n hx hb dX11_ferry_0 rfl (lv_at hl 1 rfl) ?_
  refine lv_tableIn (off := 39) (tgt := 40) hx hb dX11_ferry_1 (by decide) (by decide) (by decide) (by decide) ?_
  refine lv_aload_n hx hb dX11_ferry_40 rfl (lv_at hl 0 rfl) ?_
  refine va_get (D := D) (ci := 11) (v := .int 0) (C := RX11) (T := TX11) (N := 18) hx hb hts iw_X11_ferry_X11 hown hKX.1 hP 0 rfl rfl 11 (by decide) (hts (.fieldLink RX11 70 "TrainFerry" "ferryAt" "I") (by decide +kernel)) (fun _ h9 => h9) rfl dX11_ferry_41 ?_
  exact en_i hx hb hr hlocks () rfl trivial (hP.sub [] rfl) (hD.sub [] (by decide) rfl) hS (Nat.le_of_ble_eq_true rfl) (Nat.le_of_ble_eq_true rfl) dX11_ferry_44
theorem iw_X11_ferry_X2 : ∀ w ∈ wsX20, w ∈ wsX11_ferry := by decide +kernel
theorem iw_X11_ferry_X8 : ∀ w ∈ wsX80, w ∈ wsX11_ferry := by decide +kernel
set_option maxHeartbeats 4000000 in
set_option maxRecDepth 100000 in
theorem c_ferry_1 (l : Launch) (D : va_G) (cy : Nat → ClassId) (xh : Nat) (xq : Nat → Nat) (sz : Nat) : Met l yX11_ferry wsX11_ferry ({ frames := 0, cells := 0, slots := 0, locals := 0 }) (wPre D cy [.ref xh, .int 1] sz [(xc0 cy xh xq), (xc24 cy xh xq), (xc34 cy xh xq)]) (wQi D 0 (fun _ : Unit => True) (fun _u : Unit => []) (va_A [(xc0 cy xh xq), (xc24 cy xh xq), (xc34 cy xh xq)] sz)) 0 0 (va_A [(xc0 cy xh xq), (xc24 cy xh xq), (xc34 cy xh xq)] sz) := by
  refine met_go (y := yX11_ferry) (ws := wsX11_ferry) (av := [.ref xh, .int 1]) (cc := cX11_ferry) (maxL := 2) (ret := (some .int)) (Qc := fun A => wQi D 0 (fun _ : Unit => True) (fun _u : Unit => []) A) (by decide) rfl (Nat.le_of_ble_eq_true rfl) ?_
  intro p e s m below meth c ls A hx hb hr hml hown hts hlocks hname hKX hP hD hA hS hl
  have hown : s.vm.findClass RX11 = some m.cls := hown
  have hl : lv_has ls 2 [(0, .ref xh), (1, .int 1)] := hl
  refine lv_iload_n hx hb dX11_ferry_0 rfl (lv_at hl 1 rfl) ?_
  refine lv_tableIn (off := 44) (tgt := 45) hx hb dX11_ferry_1 (by decide) (by decide) (by decide) (by decide) ?_
  refine lv_aload_n hx hb dX11_ferry_45 rfl (lv_at hl 0 rfl) ?_
  refine va_get (D := D) (ci := 11) (v := .ref (xq 23)) (C := RX11) (T := TX11) (N := 18) hx hb hts iw_X11_ferry_X11 hown hKX.1 hP 0 rfl rfl 1 (by decide) (hts (.fieldLink RX11 19 "TrainFerry" "deck" "LTrainFerry$Deck;") (by decide +kernel)) (fun _ h9 => h9) rfl dX11_ferry_46 ?_
  refine va_get (D := D) (ci := 2) (v := .ref (xq 33)) (C := RX2) (T := TX2) (N := 2) hx hb hts iw_X11_ferry_X2 hown hKX.1 hP 1 rfl rfl 1 (by decide) (hts (.fieldLink RX11 95 "TrainFerry$Deck" "tally" "LTrainFerry$Tally;") (by decide +kernel)) (fun _ h9 => h9) rfl dX11_ferry_49 ?_
  refine va_get (D := D) (ci := 8) (v := .int 0) (C := RX8) (T := TX8) (N := 10) hx hb hts iw_X11_ferry_X8 hown hKX.1 hP 2 rfl rfl 7 (by decide) (hts (.fieldLink RX11 209 "TrainFerry$Tally" "list" "I") (by decide +kernel)) (fun _ h9 => h9) rfl dX11_ferry_52 ?_
  exact en_i hx hb hr hlocks () rfl trivial (hP.sub [] rfl) (hD.sub [] (by decide) rfl) hS (Nat.le_of_ble_eq_true rfl) (Nat.le_of_ble_eq_true rfl) dX11_ferry_55
set_option maxHeartbeats 4000000 in
set_option maxRecDepth 100000 in
theorem c_ferry_2 (l : Launch) (D : va_G) (cy : Nat → ClassId) (xh : Nat) (xq : Nat → Nat) (sz : Nat) : Met l yX11_ferry wsX11_ferry ({ frames := 0, cells := 0, slots := 0, locals := 0 }) (wPre D cy [.ref xh, .int 2] sz [(xc0 cy xh xq), (xc24 cy xh xq), (xc34 cy xh xq)]) (wQi D 0 (fun _ : Unit => True) (fun _u : Unit => []) (va_A [(xc0 cy xh xq), (xc24 cy xh xq), (xc34 cy xh xq)] sz)) 0 0 (va_A [(xc0 cy xh xq), (xc24 cy xh xq), (xc34 cy xh xq)] sz) := by
  refine met_go (y := yX11_ferry) (ws := wsX11_ferry) (av := [.ref xh, .int 2]) (cc := cX11_ferry) (maxL := 2) (ret := (some .int)) (Qc := fun A => wQi D 0 (fun _ : Unit => True) (fun _u : Unit => []) A) (by decide) rfl (Nat.le_of_ble_eq_true rfl) ?_
  intro p e s m below meth c ls A hx hb hr hml hown hts hlocks hname hKX hP hD hA hS hl
  have hown : s.vm.findClass RX11 = some m.cls := hown
  have hl : lv_has ls 2 [(0, .ref xh), (1, .int 2)] := hl
  refine lv_iload_n hx hb dX11_ferry_0 rfl (lv_at hl 1 rfl) ?_
  refine lv_tableIn (off := 55) (tgt := 56) hx hb dX11_ferry_1 (by decide) (by decide) (by decide) (by decide) ?_
  refine lv_aload_n hx hb dX11_ferry_56 rfl (lv_at hl 0 rfl) ?_
  refine va_get (D := D) (ci := 11) (v := .ref (xq 23)) (C := RX11) (T := TX11) (N := 18) hx hb hts iw_X11_ferry_X11 hown hKX.1 hP 0 rfl rfl 1 (by decide) (hts (.fieldLink RX11 19 "TrainFerry" "deck" "LTrainFerry$Deck;") (by decide +kernel)) (fun _ h9 => h9) rfl dX11_ferry_57 ?_
  refine va_get (D := D) (ci := 2) (v := .ref (xq 33)) (C := RX2) (T := TX2) (N := 2) hx hb hts iw_X11_ferry_X2 hown hKX.1 hP 1 rfl rfl 1 (by decide) (hts (.fieldLink RX11 95 "TrainFerry$Deck" "tally" "LTrainFerry$Tally;") (by decide +kernel)) (fun _ h9 => h9) rfl dX11_ferry_60 ?_
  refine va_get (D := D) (ci := 8) (v := .int 0) (C := RX8) (T := TX8) (N := 10) hx hb hts iw_X11_ferry_X8 hown hKX.1 hP 2 rfl rfl 5 (by decide) (hts (.fieldLink RX11 277 "TrainFerry$Tally" "allWeights" "I") (by decide +kernel)) (fun _ h9 => h9) rfl dX11_ferry_63 ?_
  exact en_i hx hb hr hlocks () rfl trivial (hP.sub [] rfl) (hD.sub [] (by decide) rfl) hS (Nat.le_of_ble_eq_true rfl) (Nat.le_of_ble_eq_true rfl) dX11_ferry_66
set_option maxHeartbeats 4000000 in
set_option maxRecDepth 100000 in
theorem c_ferry_3 (l : Launch) (D : va_G) (cy : Nat → ClassId) (xh : Nat) (xq : Nat → Nat) (sz : Nat) : Met l yX11_ferry wsX11_ferry ({ frames := 1, cells := 0, slots := 0, locals := 21 }) (wPre D cy [.ref xh, .int 3] sz [(xc0 cy xh xq), (xc24 cy xh xq), (xc34 cy xh xq)]) (wQi D 0 (fun _ : Unit => True) (fun _u : Unit => []) (va_A [(xc0 cy xh xq), (xc24 cy xh xq), (xc34 cy xh xq)] sz)) 0 0 (va_A [(xc0 cy xh xq), (xc24 cy xh xq), (xc34 cy xh xq)] sz) := by
  refine met_go (y := yX11_ferry) (ws := wsX11_ferry) (av := [.ref xh, .int 3]) (cc := cX11_ferry) (maxL := 2) (ret := (some .int)) (Qc := fun A => wQi D 0 (fun _ : Unit => True) (fun _u : Unit => []) A) (by decide) rfl (Nat.le_of_ble_eq_true rfl) ?_
  intro p e s m below meth c ls A hx hb hr hml hown hts hlocks hname hKX hP hD hA hS hl
  have hown : s.vm.findClass RX11 = some m.cls := hown
  have hl : lv_has ls 2 [(0, .ref xh), (1, .int 3)] := hl
  refine lv_iload_n hx hb dX11_ferry_0 rfl (lv_at hl 1 rfl) ?_
  refine lv_tableIn (off := 66) (tgt := 67) hx hb dX11_ferry_1 (by decide) (by decide) (by decide) (by decide) ?_
  refine lv_aload_n hx hb dX11_ferry_67 rfl (lv_at hl 0 rfl) ?_
  refine va_get (D := D) (ci := 11) (v := .ref (xq 23)) (C := RX11) (T := TX11) (N := 18) hx hb hts iw_X11_ferry_X11 hown hKX.1 hP 0 rfl rfl 1 (by decide) (hts (.fieldLink RX11 19 "TrainFerry" "deck" "LTrainFerry$Deck;") (by decide +kernel)) (fun _ h9 => h9) rfl dX11_ferry_68 ?_
  refine va_get (D := D) (ci := 2) (v := .ref (xq 33)) (C := RX2) (T := TX2) (N := 2) hx hb hts iw_X11_ferry_X2 hown hKX.1 hP 1 rfl rfl 1 (by decide) (hts (.fieldLink RX11 95 "TrainFerry$Deck" "tally" "LTrainFerry$Tally;") (by decide +kernel)) (fun _ h9 => h9) rfl dX11_ferry_71 ?_
  refine lv_aload_n hx hb dX11_ferry_74 rfl (lv_at hl 0 rfl) ?_
  refine va_get (D := D) (ci := 11) (v := .int 0) (C := RX11) (T := TX11) (N := 18) hx hb hts iw_X11_ferry_X11 hown hKX.1 hP 0 rfl rfl 15 (by decide) (hts (.fieldLink RX11 82 "TrainFerry" "sea" "I") (by decide +kernel)) (fun _ h9 => h9) rfl dX11_ferry_75 ?_
  refine cl_i (wr := [(xc0 cy xh xq), (xc24 cy xh xq)]) (va_runV (As := [.int 0]) (rest := []) ⟨hx, hb, hml, hown, hts⟩ (c_chains l D cy (xq 33) (xq 34) (xq 35) (xq 36) (xq 37) _) (cwV 1 hts gX11_ferry_X8_chainsNeeded rfl rfl rfl (by decide +kernel) ⟨(Nat.le_of_ble_eq_true rfl), (Nat.le_of_ble_eq_true rfl)⟩) (pre_V hKX hP hD (ci := 8) (q0 := 2) rfl rfl [2] rfl (by decide) rfl) rfl rfl hl.1 rfl (lv_room (Nat.le_of_ble_eq_true rfl)) dX11_ferry_78 ⟨(Nat.le_of_ble_eq_true rfl), (Nat.le_of_ble_eq_true rfl)⟩) hP hD hS hA [2] [0, 1] rfl rfl (by decide) (by decide) (fun u1 H locs _ hP hD hS => ?_)
  have hP : va_P D vwCl [(xc0 cy xh xq), (xc24 cy xh xq), ((xq 33), .inr (8, [.ref (xq 34), .ref (xq 35), .ref (xq 36), .ref (xq 37), .int 0, .int 0, .int 0, .int 0, .int 100, .int 200]))] H := hP
  have hD : va_D A [(xc0 cy xh xq), (xc24 cy xh xq), ((xq 33), .inr (8, [.ref (xq 34), .ref (xq 35), .ref (xq 36), .ref (xq 37), .int 0, .int 0, .int 0, .int 0, .int 100, .int 200]))] := hD
  exact en_i hx hb hr hlocks () rfl trivial (hP.sub [] rfl) (hD.sub [] (by decide) rfl) hS (Nat.le_of_ble_eq_true rfl) (Nat.le_of_ble_eq_true rfl) dX11_ferry_81
set_option maxHeartbeats 4000000 in
set_option maxRecDepth 100000 in
theorem c_ferry_4 (l : Launch) (D : va_G) (cy : Nat → ClassId) (xh : Nat) (xq : Nat → Nat) (sz : Nat) : Met l yX11_ferry wsX11_ferry ({ frames := 0, cells := 0, slots := 0, locals := 0 }) (wPre D cy [.ref xh, .int 4] sz [(xc0 cy xh xq), (xc24 cy xh xq), (xc34 cy xh xq)]) (wQi D (-1) (fun _ : Unit => True) (fun _u : Unit => []) (va_A [(xc0 cy xh xq), (xc24 cy xh xq), (xc34 cy xh xq)] sz)) 0 0 (va_A [(xc0 cy xh xq), (xc24 cy xh xq), (xc34 cy xh xq)] sz) := by
  refine met_go (y := yX11_ferry) (ws := wsX11_ferry) (av := [.ref xh, .int 4]) (cc := cX11_ferry) (maxL := 2) (ret := (some .int)) (Qc := fun A => wQi D (-1) (fun _ : Unit => True) (fun _u : Unit => []) A) (by decide) rfl (Nat.le_of_ble_eq_true rfl) ?_
  intro p e s m below meth c ls A hx hb hr hml hown hts hlocks hname hKX hP hD hA hS hl
  have hown : s.vm.findClass RX11 = some m.cls := hown
  have hl : lv_has ls 2 [(0, .ref xh), (1, .int 4)] := hl
  refine lv_iload_n hx hb dX11_ferry_0 rfl (lv_at hl 1 rfl) ?_
  refine lv_tableIn (off := 81) (tgt := 82) hx hb dX11_ferry_1 (by decide) (by decide) (by decide) (by decide) ?_
  refine lv_aload_n hx hb dX11_ferry_82 rfl (lv_at hl 0 rfl) ?_
  refine va_get (D := D) (ci := 11) (v := .int (-1)) (C := RX11) (T := TX11) (N := 18) hx hb hts iw_X11_ferry_X11 hown hKX.1 hP 0 rfl rfl 13 (by decide) (hts (.fieldLink RX11 76 "TrainFerry" "arrival" "I") (by decide +kernel)) (fun _ h9 => h9) rfl dX11_ferry_83 ?_
  exact en_i hx hb hr hlocks () rfl trivial (hP.sub [] rfl) (hD.sub [] (by decide) rfl) hS (Nat.le_of_ble_eq_true rfl) (Nat.le_of_ble_eq_true rfl) dX11_ferry_86
set_option maxHeartbeats 4000000 in
set_option maxRecDepth 100000 in
theorem c_ferry_5 (l : Launch) (D : va_G) (cy : Nat → ClassId) (xh : Nat) (xq : Nat → Nat) (sz : Nat) : Met l yX11_ferry wsX11_ferry ({ frames := 0, cells := 0, slots := 0, locals := 0 }) (wPre D cy [.ref xh, .int 5] sz [(xc0 cy xh xq), (xc24 cy xh xq), (xc34 cy xh xq)]) (wQi D 0 (fun _ : Unit => True) (fun _u : Unit => []) (va_A [(xc0 cy xh xq), (xc24 cy xh xq), (xc34 cy xh xq)] sz)) 0 0 (va_A [(xc0 cy xh xq), (xc24 cy xh xq), (xc34 cy xh xq)] sz) := by
  refine met_go (y := yX11_ferry) (ws := wsX11_ferry) (av := [.ref xh, .int 5]) (cc := cX11_ferry) (maxL := 2) (ret := (some .int)) (Qc := fun A => wQi D 0 (fun _ : Unit => True) (fun _u : Unit => []) A) (by decide) rfl (Nat.le_of_ble_eq_true rfl) ?_
  intro p e s m below meth c ls A hx hb hr hml hown hts hlocks hname hKX hP hD hA hS hl
  have hown : s.vm.findClass RX11 = some m.cls := hown
  have hl : lv_has ls 2 [(0, .ref xh), (1, .int 5)] := hl
  refine lv_iload_n hx hb dX11_ferry_0 rfl (lv_at hl 1 rfl) ?_
  refine lv_tableIn (off := 86) (tgt := 87) hx hb dX11_ferry_1 (by decide) (by decide) (by decide) (by decide) ?_
  refine lv_aload_n hx hb dX11_ferry_87 rfl (lv_at hl 0 rfl) ?_
  refine va_get (D := D) (ci := 11) (v := .ref (xq 23)) (C := RX11) (T := TX11) (N := 18) hx hb hts iw_X11_ferry_X11 hown hKX.1 hP 0 rfl rfl 1 (by decide) (hts (.fieldLink RX11 19 "TrainFerry" "deck" "LTrainFerry$Deck;") (by decide +kernel)) (fun _ h9 => h9) rfl dX11_ferry_88 ?_
  refine va_get (D := D) (ci := 2) (v := .ref (xq 33)) (C := RX2) (T := TX2) (N := 2) hx hb hts iw_X11_ferry_X2 hown hKX.1 hP 1 rfl rfl 1 (by decide) (hts (.fieldLink RX11 95 "TrainFerry$Deck" "tally" "LTrainFerry$Tally;") (by decide +kernel)) (fun _ h9 => h9) rfl dX11_ferry_91 ?_
  refine va_get (D := D) (ci := 8) (v := .int 0) (C := RX8) (T := TX8) (N := 10) hx hb hts iw_X11_ferry_X8 hown hKX.1 hP 2 rfl rfl 4 (by decide) (hts (.fieldLink RX11 99 "TrainFerry$Tally" "allWagons" "I") (by decide +kernel)) (fun _ h9 => h9) rfl dX11_ferry_94 ?_
  exact en_i hx hb hr hlocks () rfl trivial (hP.sub [] rfl) (hD.sub [] (by decide) rfl) hS (Nat.le_of_ble_eq_true rfl) (Nat.le_of_ble_eq_true rfl) dX11_ferry_97
set_option maxHeartbeats 4000000 in
set_option maxRecDepth 100000 in
theorem c_ferry_o (l : Launch) (D : va_G) (cy : Nat → ClassId) (sa sb : Nat) (hl0 : l.stackTraces = false) (xh : Nat) (xq : Nat → Nat) (xw : Int32) (ho : xw.toInt < 0 ∨ 5 < xw.toInt) (sz : Nat) : vx_Met l yX11_ferry wsX11_ferry ({ frames := 6, cells := 1, slots := 6, locals := 100 }) (wPreT D cy sa sb [.ref xh, .int xw] sz [(xc0 cy xh xq)]) (wQi D 0 (fun _ : Unit => False) (fun _u : Unit => []) (va_A [(xc0 cy xh xq)] sz)) (xQ (va_A [(xc0 cy xh xq)] sz)) 1 6 (va_A [(xc0 cy xh xq)] sz) := by
  refine met_goT (y := yX11_ferry) (ws := wsX11_ferry) (av := [.ref xh, .int xw]) (cc := cX11_ferry) (maxL := 2) (ret := (some .int)) (Qc := fun A => wQi D 0 (fun _ : Unit => False) (fun _u : Unit => []) A) (XC := fun A => xQ A) (by decide) rfl (Nat.le_of_ble_eq_true rfl) ?_
  intro p e s m below meth c ls A hx hb hr hml hown hts hlocks htab hKX hET hP hD hA hS hl
  have hown : s.vm.findClass RX11 = some m.cls := hown
  have hl : lv_has ls 2 [(0, .ref xh), (1, .int xw)] := hl
  refine lv_iload_n hx hb dX11_ferry_0 rfl (lv_at hl 1 rfl) ?_
  refine lv_tableOut (tgt := 98) hx hb dX11_ferry_1 ho (by decide) ?_
  exact ns_throw hx hb hl0 hown (hts (.classLink RX11 270 "java/util/NoSuchElementException") (by decide +kernel)) (hts (.initialized "java/util/NoSuchElementException") (by decide +kernel)) hET.2.2.2.1 (hET.words (fun w9 h9 => hts w9 (List.mem_cons_of_mem _ (List.mem_append_right _ h9)))) hET.1 hET.2.1 hS (hl.1.trans hml.symm) dX11_ferry_98 dX11_ferry_101 dX11_ferry_102 dX11_ferry_105 dX11_ferry_108 (fun x9 h9 => (htab x9 h9).elim) (Nat.le_of_ble_eq_true rfl) (Nat.le_of_ble_eq_true rfl) (Nat.le_of_ble_eq_true rfl) (Nat.le_of_ble_eq_true rfl) hlocks (fun t ha hz hk => ⟨(), trivial, rfl, Nat.le_trans hS.1 hz, fun q h1 h2 => (hk q (Nat.lt_of_lt_of_le h1 hS.1)).trans (hS.2.1 q h1 h2)⟩) hS.2.2 (Nat.le_of_ble_eq_true rfl) (Nat.le_of_ble_eq_true rfl)
set_option maxHeartbeats 4000000 in
set_option maxRecDepth 100000 in
theorem l_isOpen_0 (l : Launch) (D : va_G) (cy : Nat → ClassId) (sa sb : Nat) (hl0 : l.stackTraces = false) (xh : Nat) (xq : Nat → Nat) (oa : Nat) (sz : Nat) : Met l yL_isOpen wsL_isOpen ({ frames := 3, cells := 0, slots := 0, locals := 66 }) (wPreT D cy sa sb [.ref xh, .int 0, .ref oa] sz [(xc0 cy xh xq), (xc1 cy xh xq), (xc2 cy xh xq), (xc10 cy xh xq), (oa, .inl (cy 1, 1, .inr (.inl (fun _ => 0))))]) (wQi D 0 (fun _ : Unit => True) (fun _u : Unit => [(oa, .inl (cy 1, 1, .inr (.inl (vp_updL (fun _ => 0) 0 0))))]) (va_A [(xc0 cy xh xq), (xc1 cy xh xq), (xc2 cy xh xq), (xc10 cy xh xq), (oa, .inl (cy 1, 1, .inr (.inl (fun _ => 0))))] sz)) 0 0 (va_A [(xc0 cy xh xq), (xc1 cy xh xq), (xc2 cy xh xq), (xc10 cy xh xq), (oa, .inl (cy 1, 1, .inr (.inl (fun _ => 0))))] sz) := by
  refine met_goW (y := yL_isOpen) (ws := wsL_isOpen) (av := [.ref xh, .int 0, .ref oa]) (cc := cL_isOpen) (maxL := 4) (ret := (some .int)) (hh := [(0, 16, 19, 13)]) (Qc := fun A => wQi D 0 (fun _ : Unit => True) (fun _u : Unit => [(oa, .inl (cy 1, 1, .inr (.inl (vp_updL (fun _ => 0) 0 0))))]) A) (by decide) rfl (Nat.le_of_ble_eq_true rfl) ?_
  intro p e s m below meth c ls A hx hb hr hml hown hts hlocks htab hKX hET hP hD hA hS hl
  have hown : s.vm.findClass RL = some m.cls := hown
  have hl : lv_has ls 4 [(0, .ref xh), (1, .int 0), (2, .ref oa)] := hl
  refine lv_aload_n hx hb dL_isOpen_0 rfl (lv_at hl 2 rfl) ?_
  refine lv_iconst (v := 0) hx hb dL_isOpen_1 (by decide) ?_
  refine lv_aload_n hx hb dL_isOpen_2 rfl (lv_at hl 0 rfl) ?_
  refine lv_iload_n hx hb dL_isOpen_3 rfl (lv_at hl 1 rfl) ?_
  refine cl_i (wr := [(oa, .inl (cy 1, 1, .inr (.inl (fun _ => 0))))]) (va_runV (As := [.int 0]) (rest := [.int 0, .ref oa]) ⟨hx, hb, hml, hown, hts⟩ (c_isOpen_0 l D cy xh xq _) (cwV 1 hts gL_isOpen_X11_isOpen rfl rfl rfl (by decide +kernel) ⟨(Nat.le_of_ble_eq_true rfl), (Nat.le_of_ble_eq_true rfl)⟩) (pre_V hKX hP hD (ci := 11) (q0 := 0) rfl rfl [0, 1, 2, 3] rfl (by decide) rfl) rfl rfl hl.1 rfl (lv_room (Nat.le_of_ble_eq_true rfl)) dL_isOpen_4 ⟨(Nat.le_of_ble_eq_true rfl), (Nat.le_of_ble_eq_true rfl)⟩) hP hD hS hA [0, 1, 2, 3] [4] rfl rfl (by decide) (by decide) (fun u1 H locs _ hP hD hS => ?_)
  have hP : va_P D vwCl [(oa, .inl (cy 1, 1, .inr (.inl (fun _ => 0))))] H := hP
  have hD : va_D A [(oa, .inl (cy 1, 1, .inr (.inl (fun _ => 0))))] := hD
  refine lv_if_eq (tgt := 14) hx hb dL_isOpen_7 (by decide) (fun _ => ?_) (fun c9 => absurd (by decide) c9)
  refine lv_lconst (v := 0) hx hb dL_isOpen_14 (by decide) ?_
  refine va_last hx hb hKX.1 hP hD hS 0 1 rfl rfl (vind (by decide)) dL_isOpen_15 (fun H locs hP hD hS => ?_)
  have hP : va_P D vwCl [(oa, .inl (cy 1, 1, .inr (.inl (vp_updL (fun _ => 0) 0 0))))] H := hP
  have hD : va_D A [(oa, .inl (cy 1, 1, .inr (.inl (vp_updL (fun _ => 0) 0 0))))] := hD
  refine lv_goto (tgt := 22) hx hb dL_isOpen_16 (by decide) ?_
  refine lv_iconst (v := 0) hx hb dL_isOpen_22 (by decide) ?_
  exact en_i hx hb hr hlocks () rfl trivial (hP.sub [0] rfl) (hD.sub [0] (by decide) rfl) hS (Nat.le_of_ble_eq_true rfl) (Nat.le_of_ble_eq_true rfl) dL_isOpen_23
set_option maxHeartbeats 4000000 in
set_option maxRecDepth 100000 in
theorem l_isOpen_1 (l : Launch) (D : va_G) (cy : Nat → ClassId) (sa sb : Nat) (hl0 : l.stackTraces = false) (xh : Nat) (xq : Nat → Nat) (oa : Nat) (sz : Nat) : Met l yL_isOpen wsL_isOpen ({ frames := 3, cells := 0, slots := 0, locals := 66 }) (wPreT D cy sa sb [.ref xh, .int 1, .ref oa] sz [(xc0 cy xh xq), (xc1 cy xh xq), (xc13 cy xh xq), (xc21 cy xh xq), (oa, .inl (cy 1, 1, .inr (.inl (fun _ => 0))))]) (wQi D 0 (fun _ : Unit => True) (fun _u : Unit => [(oa, .inl (cy 1, 1, .inr (.inl (vp_updL (fun _ => 0) 0 0))))]) (va_A [(xc0 cy xh xq), (xc1 cy xh xq), (xc13 cy xh xq), (xc21 cy xh xq), (oa, .inl (cy 1, 1, .inr (.inl (fun _ => 0))))] sz)) 0 0 (va_A [(xc0 cy xh xq), (xc1 cy xh xq), (xc13 cy xh xq), (xc21 cy xh xq), (oa, .inl (cy 1, 1, .inr (.inl (fun _ => 0))))] sz) := by
  refine met_goW (y := yL_isOpen) (ws := wsL_isOpen) (av := [.ref xh, .int 1, .ref oa]) (cc := cL_isOpen) (maxL := 4) (ret := (some .int)) (hh := [(0, 16, 19, 13)]) (Qc := fun A => wQi D 0 (fun _ : Unit => True) (fun _u : Unit => [(oa, .inl (cy 1, 1, .inr (.inl (vp_updL (fun _ => 0) 0 0))))]) A) (by decide) rfl (Nat.le_of_ble_eq_true rfl) ?_
  intro p e s m below meth c ls A hx hb hr hml hown hts hlocks htab hKX hET hP hD hA hS hl
  have hown : s.vm.findClass RL = some m.cls := hown
  have hl : lv_has ls 4 [(0, .ref xh), (1, .int 1), (2, .ref oa)] := hl
  refine lv_aload_n hx hb dL_isOpen_0 rfl (lv_at hl 2 rfl) ?_
  refine lv_iconst (v := 0) hx hb dL_isOpen_1 (by decide) ?_
  refine lv_aload_n hx hb dL_isOpen_2 rfl (lv_at hl 0 rfl) ?_
  refine lv_iload_n hx hb dL_isOpen_3 rfl (lv_at hl 1 rfl) ?_
  refine cl_i (wr := [(oa, .inl (cy 1, 1, .inr (.inl (fun _ => 0))))]) (va_runV (As := [.int 1]) (rest := [.int 0, .ref oa]) ⟨hx, hb, hml, hown, hts⟩ (c_isOpen_1 l D cy xh xq _) (cwV 1 hts gL_isOpen_X11_isOpen rfl rfl rfl (by decide +kernel) ⟨(Nat.le_of_ble_eq_true rfl), (Nat.le_of_ble_eq_true rfl)⟩) (pre_V hKX hP hD (ci := 11) (q0 := 0) rfl rfl [0, 1, 2, 3] rfl (by decide) rfl) rfl rfl hl.1 rfl (lv_room (Nat.le_of_ble_eq_true rfl)) dL_isOpen_4 ⟨(Nat.le_of_ble_eq_true rfl), (Nat.le_of_ble_eq_true rfl)⟩) hP hD hS hA [0, 1, 2, 3] [4] rfl rfl (by decide) (by decide) (fun u1 H locs _ hP hD hS => ?_)
  have hP : va_P D vwCl [(oa, .inl (cy 1, 1, .inr (.inl (fun _ => 0))))] H := hP
  have hD : va_D A [(oa, .inl (cy 1, 1, .inr (.inl (fun _ => 0))))] := hD
  refine lv_if_eq (tgt := 14) hx hb dL_isOpen_7 (by decide) (fun _ => ?_) (fun c9 => absurd (by decide) c9)
  refine lv_lconst (v := 0) hx hb dL_isOpen_14 (by decide) ?_
  refine va_last hx hb hKX.1 hP hD hS 0 1 rfl rfl (vind (by decide)) dL_isOpen_15 (fun H locs hP hD hS => ?_)
  have hP : va_P D vwCl [(oa, .inl (cy 1, 1, .inr (.inl (vp_updL (fun _ => 0) 0 0))))] H := hP
  have hD : va_D A [(oa, .inl (cy 1, 1, .inr (.inl (vp_updL (fun _ => 0) 0 0))))] := hD
  refine lv_goto (tgt := 22) hx hb dL_isOpen_16 (by decide) ?_
  refine lv_iconst (v := 0) hx hb dL_isOpen_22 (by decide) ?_
  exact en_i hx hb hr hlocks () rfl trivial (hP.sub [0] rfl) (hD.sub [0] (by decide) rfl) hS (Nat.le_of_ble_eq_true rfl) (Nat.le_of_ble_eq_true rfl) dL_isOpen_23
set_option maxHeartbeats 4000000 in
set_option maxRecDepth 100000 in
theorem l_isOpen_o (l : Launch) (D : va_G) (cy : Nat → ClassId) (sa sb : Nat) (hl0 : l.stackTraces = false) (xh : Nat) (xq : Nat → Nat) (oa : Nat) (xs : Int32) (hs : (wi xs 0 1) = 0) (sz : Nat) : Met l yL_isOpen wsL_isOpen ({ frames := 7, cells := 1, slots := 6, locals := 121 }) (wPreT D cy sa sb [.ref xh, .int xs, .ref oa] sz [(xc0 cy xh xq), (oa, .inl (cy 1, 1, .inr (.inl (fun _ => 0))))]) (wQi D 1 (fun _ : Unit => True) (fun _u : Unit => []) (va_A [(xc0 cy xh xq), (oa, .inl (cy 1, 1, .inr (.inl (fun _ => 0))))] sz)) 1 6 (va_A [(xc0 cy xh xq), (oa, .inl (cy 1, 1, .inr (.inl (fun _ => 0))))] sz) := by
  refine met_goW (y := yL_isOpen) (ws := wsL_isOpen) (av := [.ref xh, .int xs, .ref oa]) (cc := cL_isOpen) (maxL := 4) (ret := (some .int)) (hh := [(0, 16, 19, 13)]) (Qc := fun A => wQi D 1 (fun _ : Unit => True) (fun _u : Unit => []) A) (by decide) rfl (Nat.le_of_ble_eq_true rfl) ?_
  intro p e s m below meth c ls A hx hb hr hml hown hts hlocks htab hKX hET hP hD hA hS hl
  have hown : s.vm.findClass RL = some m.cls := hown
  have hl : lv_has ls 4 [(0, .ref xh), (1, .int xs), (2, .ref oa)] := hl
  refine lv_aload_n hx hb dL_isOpen_0 rfl (lv_at hl 2 rfl) ?_
  refine lv_iconst (v := 0) hx hb dL_isOpen_1 (by decide) ?_
  refine lv_aload_n hx hb dL_isOpen_2 rfl (lv_at hl 0 rfl) ?_
  refine lv_iload_n hx hb dL_isOpen_3 rfl (lv_at hl 1 rfl) ?_
  have hF := va_free (wc := [(xc0 cy xh xq)]) hD hS hA [0] rfl
  refine vx_calli (vx_runV (As := [.int xs]) (rest := [.int 0, .ref oa]) ⟨hx, hb, hml, hown, hts⟩ (c_isOpen_o l D cy _ _ hl0 xh xq xs hs _) (cwV 1 hts gL_isOpen_X11_isOpen rfl rfl rfl (by decide +kernel) ⟨(Nat.le_of_ble_eq_true rfl), (Nat.le_of_ble_eq_true rfl)⟩) (pre_VT hKX hP hD hET hS hA (ci := 11) (q0 := 0) rfl rfl [0] rfl (by decide) rfl) rfl rfl hl.1 rfl (lv_room (Nat.le_of_ble_eq_true rfl)) dL_isOpen_4 ⟨(Nat.le_of_ble_eq_true rfl), (Nat.le_of_ble_eq_true rfl)⟩) hS (fun q _ h => hF q h) hF (fun q _ h => hF q h) (fun E ce q9 u9 t9 H locs ht hvm hpx hBX hz hk hS hce hcv hcl => ?_) (fun r9 u9 t9 H9 locs9 h1 h2 hpost h4 h5 h6 h7 => hpost.2.elim)
  obtain rfl : E = nsE := hBX
  refine vx_catch (own := RL) (name := nsE) hown [] ⟨0, 16, 19, 13⟩ [] htab (fun z h9 => nomatch h9) (by decide) (by decide) (hts (.classLink RL 13 "java/util/NoSuchElementException") (by decide +kernel)) (va_Nw.use rfl (hET.2.2.2.2 (.castable nsE nsE) (by decide +kernel))) hce hcv hcl ?_
  have hP : va_P D vwCl [] H := fun k q h => by simp at h
  have hD : va_D A [] := ⟨fun i j p q h => by simp at h, fun k q h => by simp at h⟩
  refine lv_astore_n (lv' := [(3, .ref q9), (0, .ref xh), (1, .int xs), (2, .ref oa)]) hx hb dL_isOpen_19 rfl hl (by decide) rfl (fun ls hl => ?_)
  refine lv_iconst (v := 1) hx hb dL_isOpen_20 (by decide) ?_
  exact en_i hx hb hr hlocks () rfl trivial (hP.sub [] rfl) (hD.sub [] (by decide) rfl) hS (Nat.le_of_ble_eq_true rfl) (Nat.le_of_ble_eq_true rfl) dL_isOpen_21
set_option maxHeartbeats 4000000 in
set_option maxRecDepth 100000 in
theorem l_ferry_0 (l : Launch) (D : va_G) (cy : Nat → ClassId) (sa sb : Nat) (hl0 : l.stackTraces = false) (xh : Nat) (xq : Nat → Nat) (oa : Nat) (sz : Nat) : Met l yL_ferry wsL_ferry ({ frames := 1, cells := 0, slots := 0, locals := 21 }) (wPreT D cy sa sb [.ref xh, .int 0, .ref oa] sz [(xc0 cy xh xq), (xc24 cy xh xq), (xc34 cy xh xq), (oa, .inl (cy 1, 1, .inr (.inl (fun _ => 0))))]) (wQi D 0 (fun _ : Unit => True) (fun _u : Unit => [(oa, .inl (cy 1, 1, .inr (.inl (vp_updL (fun _ => 0) 0 0))))]) (va_A [(xc0 cy xh xq), (xc24 cy xh xq), (xc34 cy xh xq), (oa, .inl (cy 1, 1, .inr (.inl (fun _ => 0))))] sz)) 0 0 (va_A [(xc0 cy xh xq), (xc24 cy xh xq), (xc34 cy xh xq), (oa, .inl (cy 1, 1, .inr (.inl (fun _ => 0))))] sz) := by
  refine met_goW (y := yL_ferry) (ws := wsL_ferry) (av := [.ref xh, .int 0, .ref oa]) (cc := cL_ferry) (maxL := 4) (ret := (some .int)) (hh := [(0, 9, 12, 13)]) (Qc := fun A => wQi D 0 (fun _ : Unit => True) (fun _u : Unit => [(oa, .inl (cy 1, 1, .inr (.inl (vp_updL (fun _ => 0) 0 0))))]) A) (by decide) rfl (Nat.le_of_ble_eq_true rfl) ?_
  intro p e s m below meth c ls A hx hb hr hml hown hts hlocks htab hKX hET hP hD hA hS hl
  have hown : s.vm.findClass RL = some m.cls := hown
  have hl : lv_has ls 4 [(0, .ref xh), (1, .int 0), (2, .ref oa)] := hl
  refine lv_aload_n hx hb dL_ferry_0 rfl (lv_at hl 2 rfl) ?_
  refine lv_iconst (v := 0) hx hb dL_ferry_1 (by decide) ?_
  refine lv_aload_n hx hb dL_ferry_2 rfl (lv_at hl 0 rfl) ?_
  refine lv_iload_n hx hb dL_ferry_3 rfl (lv_at hl 1 rfl) ?_
  refine cl_i (wr := [(oa, .inl (cy 1, 1, .inr (.inl (fun _ => 0))))]) (va_runV (As := [.int 0]) (rest := [.int 0, .ref oa]) ⟨hx, hb, hml, hown, hts⟩ (c_ferry_0 l D cy xh xq _) (cwV 1 hts gL_ferry_X11_ferry rfl rfl rfl (by decide +kernel) ⟨(Nat.le_of_ble_eq_true rfl), (Nat.le_of_ble_eq_true rfl)⟩) (pre_V hKX hP hD (ci := 11) (q0 := 0) rfl rfl [0, 1, 2] rfl (by decide) rfl) rfl rfl hl.1 rfl (lv_room (Nat.le_of_ble_eq_true rfl)) dL_ferry_4 ⟨(Nat.le_of_ble_eq_true rfl), (Nat.le_of_ble_eq_true rfl)⟩) hP hD hS hA [0, 1, 2] [3] rfl rfl (by decide) (by decide) (fun u1 H locs _ hP hD hS => ?_)
  have hP : va_P D vwCl [(oa, .inl (cy 1, 1, .inr (.inl (fun _ => 0))))] H := hP
  have hD : va_D A [(oa, .inl (cy 1, 1, .inr (.inl (fun _ => 0))))] := hD
  refine lv_i2l (v := 0) hx hb dL_ferry_7 (by decide) ?_
  refine va_last hx hb hKX.1 hP hD hS 0 1 rfl rfl (vind (by decide)) dL_ferry_8 (fun H locs hP hD hS => ?_)
  have hP : va_P D vwCl [(oa, .inl (cy 1, 1, .inr (.inl (vp_updL (fun _ => 0) 0 0))))] H := hP
  have hD : va_D A [(oa, .inl (cy 1, 1, .inr (.inl (vp_updL (fun _ => 0) 0 0))))] := hD
  refine lv_goto (tgt := 15) hx hb dL_ferry_9 (by decide) ?_
  refine lv_iconst (v := 0) hx hb dL_ferry_15 (by decide) ?_
  exact en_i hx hb hr hlocks () rfl trivial (hP.sub [0] rfl) (hD.sub [0] (by decide) rfl) hS (Nat.le_of_ble_eq_true rfl) (Nat.le_of_ble_eq_true rfl) dL_ferry_16
set_option maxHeartbeats 4000000 in
set_option maxRecDepth 100000 in
theorem l_ferry_1 (l : Launch) (D : va_G) (cy : Nat → ClassId) (sa sb : Nat) (hl0 : l.stackTraces = false) (xh : Nat) (xq : Nat → Nat) (oa : Nat) (sz : Nat) : Met l yL_ferry wsL_ferry ({ frames := 1, cells := 0, slots := 0, locals := 21 }) (wPreT D cy sa sb [.ref xh, .int 1, .ref oa] sz [(xc0 cy xh xq), (xc24 cy xh xq), (xc34 cy xh xq), (oa, .inl (cy 1, 1, .inr (.inl (fun _ => 0))))]) (wQi D 0 (fun _ : Unit => True) (fun _u : Unit => [(oa, .inl (cy 1, 1, .inr (.inl (vp_updL (fun _ => 0) 0 0))))]) (va_A [(xc0 cy xh xq), (xc24 cy xh xq), (xc34 cy xh xq), (oa, .inl (cy 1, 1, .inr (.inl (fun _ => 0))))] sz)) 0 0 (va_A [(xc0 cy xh xq), (xc24 cy xh xq), (xc34 cy xh xq), (oa, .inl (cy 1, 1, .inr (.inl (fun _ => 0))))] sz) := by
  refine met_goW (y := yL_ferry) (ws := wsL_ferry) (av := [.ref xh, .int 1, .ref oa]) (cc := cL_ferry) (maxL := 4) (ret := (some .int)) (hh := [(0, 9, 12, 13)]) (Qc := fun A => wQi D 0 (fun _ : Unit => True) (fun _u : Unit => [(oa, .inl (cy 1, 1, .inr (.inl (vp_updL (fun _ => 0) 0 0))))]) A) (by decide) rfl (Nat.le_of_ble_eq_true rfl) ?_
  intro p e s m below meth c ls A hx hb hr hml hown hts hlocks htab hKX hET hP hD hA hS hl
  have hown : s.vm.findClass RL = some m.cls := hown
  have hl : lv_has ls 4 [(0, .ref xh), (1, .int 1), (2, .ref oa)] := hl
  refine lv_aload_n hx hb dL_ferry_0 rfl (lv_at hl 2 rfl) ?_
  refine lv_iconst (v := 0) hx hb dL_ferry_1 (by decide) ?_
  refine lv_aload_n hx hb dL_ferry_2 rfl (lv_at hl 0 rfl) ?_
  refine lv_iload_n hx hb dL_ferry_3 rfl (lv_at hl 1 rfl) ?_
  refine cl_i (wr := [(oa, .inl (cy 1, 1, .inr (.inl (fun _ => 0))))]) (va_runV (As := [.int 1]) (rest := [.int 0, .ref oa]) ⟨hx, hb, hml, hown, hts⟩ (c_ferry_1 l D cy xh xq _) (cwV 1 hts gL_ferry_X11_ferry rfl rfl rfl (by decide +kernel) ⟨(Nat.le_of_ble_eq_true rfl), (Nat.le_of_ble_eq_true rfl)⟩) (pre_V hKX hP hD (ci := 11) (q0 := 0) rfl rfl [0, 1, 2] rfl (by decide) rfl) rfl rfl hl.1 rfl (lv_room (Nat.le_of_ble_eq_true rfl)) dL_ferry_4 ⟨(Nat.le_of_ble_eq_true rfl), (Nat.le_of_ble_eq_true rfl)⟩) hP hD hS hA [0, 1, 2] [3] rfl rfl (by decide) (by decide) (fun u1 H locs _ hP hD hS => ?_)
  have hP : va_P D vwCl [(oa, .inl (cy 1, 1, .inr (.inl (fun _ => 0))))] H := hP
  have hD : va_D A [(oa, .inl (cy 1, 1, .inr (.inl (fun _ => 0))))] := hD
  refine lv_i2l (v := 0) hx hb dL_ferry_7 (by decide) ?_
  refine va_last hx hb hKX.1 hP hD hS 0 1 rfl rfl (vind (by decide)) dL_ferry_8 (fun H locs hP hD hS => ?_)
  have hP : va_P D vwCl [(oa, .inl (cy 1, 1, .inr (.inl (vp_updL (fun _ => 0) 0 0))))] H := hP
  have hD : va_D A [(oa, .inl (cy 1, 1, .inr (.inl (vp_updL (fun _ => 0) 0 0))))] := hD
  refine lv_goto (tgt := 15) hx hb dL_ferry_9 (by decide) ?_
  refine lv_iconst (v := 0) hx hb dL_ferry_15 (by decide) ?_
  exact en_i hx hb hr hlocks () rfl trivial (hP.sub [0] rfl) (hD.sub [0] (by decide) rfl) hS (Nat.le_of_ble_eq_true rfl) (Nat.le_of_ble_eq_true rfl) dL_ferry_16
set_option maxHeartbeats 4000000 in
set_option maxRecDepth 100000 in
theorem l_ferry_2 (l : Launch) (D : va_G) (cy : Nat → ClassId) (sa sb : Nat) (hl0 : l.stackTraces = false) (xh : Nat) (xq : Nat → Nat) (oa : Nat) (sz : Nat) : Met l yL_ferry wsL_ferry ({ frames := 1, cells := 0, slots := 0, locals := 21 }) (wPreT D cy sa sb [.ref xh, .int 2, .ref oa] sz [(xc0 cy xh xq), (xc24 cy xh xq), (xc34 cy xh xq), (oa, .inl (cy 1, 1, .inr (.inl (fun _ => 0))))]) (wQi D 0 (fun _ : Unit => True) (fun _u : Unit => [(oa, .inl (cy 1, 1, .inr (.inl (vp_updL (fun _ => 0) 0 0))))]) (va_A [(xc0 cy xh xq), (xc24 cy xh xq), (xc34 cy xh xq), (oa, .inl (cy 1, 1, .inr (.inl (fun _ => 0))))] sz)) 0 0 (va_A [(xc0 cy xh xq), (xc24 cy xh xq), (xc34 cy xh xq), (oa, .inl (cy 1, 1, .inr (.inl (fun _ => 0))))] sz) := by
  refine met_goW (y := yL_ferry) (ws := wsL_ferry) (av := [.ref xh, .int 2, .ref oa]) (cc := cL_ferry) (maxL := 4) (ret := (some .int)) (hh := [(0, 9, 12, 13)]) (Qc := fun A => wQi D 0 (fun _ : Unit => True) (fun _u : Unit => [(oa, .inl (cy 1, 1, .inr (.inl (vp_updL (fun _ => 0) 0 0))))]) A) (by decide) rfl (Nat.le_of_ble_eq_true rfl) ?_
  intro p e s m below meth c ls A hx hb hr hml hown hts hlocks htab hKX hET hP hD hA hS hl
  have hown : s.vm.findClass RL = some m.cls := hown
  have hl : lv_has ls 4 [(0, .ref xh), (1, .int 2), (2, .ref oa)] := hl
  refine lv_aload_n hx hb dL_ferry_0 rfl (lv_at hl 2 rfl) ?_
  refine lv_iconst (v := 0) hx hb dL_ferry_1 (by decide) ?_
  refine lv_aload_n hx hb dL_ferry_2 rfl (lv_at hl 0 rfl) ?_
  refine lv_iload_n hx hb dL_ferry_3 rfl (lv_at hl 1 rfl) ?_
  refine cl_i (wr := [(oa, .inl (cy 1, 1, .inr (.inl (fun _ => 0))))]) (va_runV (As := [.int 2]) (rest := [.int 0, .ref oa]) ⟨hx, hb, hml, hown, hts⟩ (c_ferry_2 l D cy xh xq _) (cwV 1 hts gL_ferry_X11_ferry rfl rfl rfl (by decide +kernel) ⟨(Nat.le_of_ble_eq_true rfl), (Nat.le_of_ble_eq_true rfl)⟩) (pre_V hKX hP hD (ci := 11) (q0 := 0) rfl rfl [0, 1, 2] rfl (by decide) rfl) rfl rfl hl.1 rfl (lv_room (Nat.le_of_ble_eq_true rfl)) dL_ferry_4 ⟨(Nat.le_of_ble_eq_true rfl), (Nat.le_of_ble_eq_true rfl)⟩) hP hD hS hA [0, 1, 2] [3] rfl rfl (by decide) (by decide) (fun u1 H locs _ hP hD hS => ?_)
  have hP : va_P D vwCl [(oa, .inl (cy 1, 1, .inr (.inl (fun _ => 0))))] H := hP
  have hD : va_D A [(oa, .inl (cy 1, 1, .inr (.inl (fun _ => 0))))] := hD
  refine lv_i2l (v := 0) hx hb dL_ferry_7 (by decide) ?_
  refine va_last hx hb hKX.1 hP hD hS 0 1 rfl rfl (vind (by decide)) dL_ferry_8 (fun H locs hP hD hS => ?_)
  have hP : va_P D vwCl [(oa, .inl (cy 1, 1, .inr (.inl (vp_updL (fun _ => 0) 0 0))))] H := hP
  have hD : va_D A [(oa, .inl (cy 1, 1, .inr (.inl (vp_updL (fun _ => 0) 0 0))))] := hD
  refine lv_goto (tgt := 15) hx hb dL_ferry_9 (by decide) ?_
  refine lv_iconst (v := 0) hx hb dL_ferry_15 (by decide) ?_
  exact en_i hx hb hr hlocks () rfl trivial (hP.sub [0] rfl) (hD.sub [0] (by decide) rfl) hS (Nat.le_of_ble_eq_true rfl) (Nat.le_of_ble_eq_true rfl) dL_ferry_16
set_option maxHeartbeats 4000000 in
set_option maxRecDepth 100000 in
theorem l_ferry_3 (l : Launch) (D : va_G) (cy : Nat → ClassId) (sa sb : Nat) (hl0 : l.stackTraces = false) (xh : Nat) (xq : Nat → Nat) (oa : Nat) (sz : Nat) : Met l yL_ferry wsL_ferry ({ frames := 2, cells := 0, slots := 0, locals := 42 }) (wPreT D cy sa sb [.ref xh, .int 3, .ref oa] sz [(xc0 cy xh xq), (xc24 cy xh xq), (xc34 cy xh xq), (oa, .inl (cy 1, 1, .inr (.inl (fun _ => 0))))]) (wQi D 0 (fun _ : Unit => True) (fun _u : Unit => [(oa, .inl (cy 1, 1, .inr (.inl (vp_updL (fun _ => 0) 0 0))))]) (va_A [(xc0 cy xh xq), (xc24 cy xh xq), (xc34 cy xh xq), (oa, .inl (cy 1, 1, .inr (.inl (fun _ => 0))))] sz)) 0 0 (va_A [(xc0 cy xh xq), (xc24 cy xh xq), (xc34 cy xh xq), (oa, .inl (cy 1, 1, .inr (.inl (fun _ => 0))))] sz) := by
  refine met_goW (y := yL_ferry) (ws := wsL_ferry) (av := [.ref xh, .int 3, .ref oa]) (cc := cL_ferry) (maxL := 4) (ret := (some .int)) (hh := [(0, 9, 12, 13)]) (Qc := fun A => wQi D 0 (fun _ : Unit => True) (fun _u : Unit => [(oa, .inl (cy 1, 1, .inr (.inl (vp_updL (fun _ => 0) 0 0))))]) A) (by decide) rfl (Nat.le_of_ble_eq_true rfl) ?_
  intro p e s m below meth c ls A hx hb hr hml hown hts hlocks htab hKX hET hP hD hA hS hl
  have hown : s.vm.findClass RL = some m.cls := hown
  have hl : lv_has ls 4 [(0, .ref xh), (1, .int 3), (2, .ref oa)] := hl
  refine lv_aload_n hx hb dL_ferry_0 rfl (lv_at hl 2 rfl) ?_
  refine lv_iconst (v := 0) hx hb dL_ferry_1 (by decide) ?_
  refine lv_aload_n hx hb dL_ferry_2 rfl (lv_at hl 0 rfl) ?_
  refine lv_iload_n hx hb dL_ferry_3 rfl (lv_at hl 1 rfl) ?_
  refine cl_i (wr := [(oa, .inl (cy 1, 1, .inr (.inl (fun _ => 0))))]) (va_runV (As := [.int 3]) (rest := [.int 0, .ref oa]) ⟨hx, hb, hml, hown, hts⟩ (c_ferry_3 l D cy xh xq _) (cwV 1 hts gL_ferry_X11_ferry rfl rfl rfl (by decide +kernel) ⟨(Nat.le_of_ble_eq_true rfl), (Nat.le_of_ble_eq_true rfl)⟩) (pre_V hKX hP hD (ci := 11) (q0 := 0) rfl rfl [0, 1, 2] rfl (by decide) rfl) rfl rfl hl.1 rfl (lv_room (Nat.le_of_ble_eq_true rfl)) dL_ferry_4 ⟨(Nat.le_of_ble_eq_true rfl), (Nat.le_of_ble_eq_true rfl)⟩) hP hD hS hA [0, 1, 2] [3] rfl rfl (by decide) (by decide) (fun u1 H locs _ hP hD hS => ?_)
  have hP : va_P D vwCl [(oa, .inl (cy 1, 1, .inr (.inl (fun _ => 0))))] H := hP
  have hD : va_D A [(oa, .inl (cy 1, 1, .inr (.inl (fun _ => 0))))] := hD
  refine lv_i2l (v := 0) hx hb dL_ferry_7 (by decide) ?_
  refine va_last hx hb hKX.1 hP hD hS 0 1 rfl rfl (vind (by decide)) dL_ferry_8 (fun H locs hP hD hS => ?_)
  have hP : va_P D vwCl [(oa, .inl (cy 1, 1, .inr (.inl (vp_updL (fun _ => 0) 0 0))))] H := hP
  have hD : va_D A [(oa, .inl (cy 1, 1, .inr (.inl (vp_updL (fun _ => 0) 0 0))))] := hD
  refine lv_goto (tgt := 15) hx hb dL_ferry_9 (by decide) ?_
  refine lv_iconst (v := 0) hx hb dL_ferry_15 (by decide) ?_
  exact en_i hx hb hr hlocks () rfl trivial (hP.sub [0] rfl) (hD.sub [0] (by decide) rfl) hS (Nat.le_of_ble_eq_true rfl) (Nat.le_of_ble_eq_true rfl) dL_ferry_16
set_option maxHeartbeats 4000000 in
set_option maxRecDepth 100000 in
theorem l_ferry_4 (l : Launch) (D : va_G) (cy : Nat → ClassId) (sa sb : Nat) (hl0 : l.stackTraces = false) (xh : Nat) (xq : Nat → Nat) (oa : Nat) (sz : Nat) : Met l yL_ferry wsL_ferry ({ frames := 1, cells := 0, slots := 0, locals := 21 }) (wPreT D cy sa sb [.ref xh, .int 4, .ref oa] sz [(xc0 cy xh xq), (xc24 cy xh xq), (xc34 cy xh xq), (oa, .inl (cy 1, 1, .inr (.inl (fun _ => 0))))]) (wQi D 0 (fun _ : Unit => True) (fun _u : Unit => [(oa, .inl (cy 1, 1, .inr (.inl (vp_updL (fun _ => 0) 0 (-1)))))]) (va_A [(xc0 cy xh xq), (xc24 cy xh xq), (xc34 cy xh xq), (oa, .inl (cy 1, 1, .inr (.inl (fun _ => 0))))] sz)) 0 0 (va_A [(xc0 cy xh xq), (xc24 cy xh xq), (xc34 cy xh xq), (oa, .inl (cy 1, 1, .inr (.inl (fun _ => 0))))] sz) := by
  refine met_goW (y := yL_ferry) (ws := wsL_ferry) (av := [.ref xh, .int 4, .ref oa]) (cc := cL_ferry) (maxL := 4) (ret := (some .int)) (hh := [(0, 9, 12, 13)]) (Qc := fun A => wQi D 0 (fun _ : Unit => True) (fun _u : Unit => [(oa, .inl (cy 1, 1, .inr (.inl (vp_updL (fun _ => 0) 0 (-1)))))]) A) (by decide) rfl (Nat.le_of_ble_eq_true rfl) ?_
  intro p e s m below meth c ls A hx hb hr hml hown hts hlocks htab hKX hET hP hD hA hS hl
  have hown : s.vm.findClass RL = some m.cls := hown
  have hl : lv_has ls 4 [(0, .ref xh), (1, .int 4), (2, .ref oa)] := hl
  refine lv_aload_n hx hb dL_ferry_0 rfl (lv_at hl 2 rfl) ?_
  refine lv_iconst (v := 0) hx hb dL_ferry_1 (by decide) ?_
  refine lv_aload_n hx hb dL_ferry_2 rfl (lv_at hl 0 rfl) ?_
  refine lv_iload_n hx hb dL_ferry_3 rfl (lv_at hl 1 rfl) ?_
  refine cl_i (wr := [(oa, .inl (cy 1, 1, .inr (.inl (fun _ => 0))))]) (va_runV (As := [.int 4]) (rest := [.int 0, .ref oa]) ⟨hx, hb, hml, hown, hts⟩ (c_ferry_4 l D cy xh xq _) (cwV 1 hts gL_ferry_X11_ferry rfl rfl rfl (by decide +kernel) ⟨(Nat.le_of_ble_eq_true rfl), (Nat.le_of_ble_eq_true rfl)⟩) (pre_V hKX hP hD (ci := 11) (q0 := 0) rfl rfl [0, 1, 2] rfl (by decide) rfl) rfl rfl hl.1 rfl (lv_room (Nat.le_of_ble_eq_true rfl)) dL_ferry_4 ⟨(Nat.le_of_ble_eq_true rfl), (Nat.le_of_ble_eq_true rfl)⟩) hP hD hS hA [0, 1, 2] [3] rfl rfl (by decide) (by decide) (fun u1 H locs _ hP hD hS => ?_)
  have hP : va_P D vwCl [(oa, .inl (cy 1, 1, .inr (.inl (fun _ => 0))))] H := hP
  have hD : va_D A [(oa, .inl (cy 1, 1, .inr (.inl (fun _ => 0))))] := hD
  refine lv_i2l (v := (-1)) hx hb dL_ferry_7 (by decide) ?_
  refine va_last hx hb hKX.1 hP hD hS 0 1 rfl rfl (vind (by decide)) dL_ferry_8 (fun H locs hP hD hS => ?_)
  have hP : va_P D vwCl [(oa, .inl (cy 1, 1, .inr (.inl (vp_updL (fun _ => 0) 0 (-1)))))] H := hP
  have hD : va_D A [(oa, .inl (cy 1, 1, .inr (.inl (vp_updL (fun _ => 0) 0 (-1)))))] := hD
  refine lv_goto (tgt := 15) hx hb dL_ferry_9 (by decide) ?_
  refine lv_iconst (v := 0) hx hb dL_ferry_15 (by decide) ?_
  exact en_i hx hb hr hlocks () rfl trivial (hP.sub [0] rfl) (hD.sub [0] (by decide) rfl) hS (Nat.le_of_ble_eq_true rfl) (Nat.le_of_ble_eq_true rfl) dL_ferry_16
set_option maxHeartbeats 4000000 in
set_option maxRecDepth 100000 in
theorem l_ferry_5 (l : Launch) (D : va_G) (cy : Nat → ClassId) (sa sb : Nat) (hl0 : l.stackTraces = false) (xh : Nat) (xq : Nat → Nat) (oa : Nat) (sz : Nat) : Met l yL_ferry wsL_ferry ({ frames := 1, cells := 0, slots := 0, locals := 21 }) (wPreT D cy sa sb [.ref xh, .int 5, .ref oa] sz [(xc0 cy xh xq), (xc24 cy xh xq), (xc34 cy xh xq), (oa, .inl (cy 1, 1, .inr (.inl (fun _ => 0))))]) (wQi D 0 (fun _ : Unit => True) (fun _u : Unit => [(oa, .inl (cy 1, 1, .inr (.inl (vp_updL (fun _ => 0) 0 0))))]) (va_A [(xc0 cy xh xq), (xc24 cy xh xq), (xc34 cy xh xq), (oa, .inl (cy 1, 1, .inr (.inl (fun _ => 0))))] sz)) 0 0 (va_A [(xc0 cy xh xq), (xc24 cy xh xq), (xc34 cy xh xq), (oa, .inl (cy 1, 1, .inr (.inl (fun _ => 0))))] sz) := by
  refine met_goW (y := yL_ferry) (ws := wsL_ferry) (av := [.ref xh, .int 5, .ref oa]) (cc := cL_ferry) (maxL := 4) (ret := (some .int)) (hh := [(0, 9, 12, 13)]) (Qc := fun A => wQi D 0 (fun _ : Unit => True) (fun _u : Unit => [(oa, .inl (cy 1, 1, .inr (.inl (vp_updL (fun _ => 0) 0 0))))]) A) (by decide) rfl (Nat.le_of_ble_eq_true rfl) ?_
  intro p e s m below meth c ls A hx hb hr hml hown hts hlocks htab hKX hET hP hD hA hS hl
  have hown : s.vm.findClass RL = some m.cls := hown
  have hl : lv_has ls 4 [(0, .ref xh), (1, .int 5), (2, .ref oa)] := hl
  refine lv_aload_n hx hb dL_ferry_0 rfl (lv_at hl 2 rfl) ?_
  refine lv_iconst (v := 0) hx hb dL_ferry_1 (by decide) ?_
  refine lv_aload_n hx hb dL_ferry_2 rfl (lv_at hl 0 rfl) ?_
  refine lv_iload_n hx hb dL_ferry_3 rfl (lv_at hl 1 rfl) ?_
  refine cl_i (wr := [(oa, .inl (cy 1, 1, .inr (.inl (fun _ => 0))))]) (va_runV (As := [.int 5]) (rest := [.int 0, .ref oa]) ⟨hx, hb, hml, hown, hts⟩ (c_ferry_5 l D cy xh xq _) (cwV 1 hts gL_ferry_X11_ferry rfl rfl rfl (by decide +kernel) ⟨(Nat.le_of_ble_eq_true rfl), (Nat.le_of_ble_eq_true rfl)⟩) (pre_V hKX hP hD (ci := 11) (q0 := 0) rfl rfl [0, 1, 2] rfl (by decide) rfl) rfl rfl hl.1 rfl (lv_room (Nat.le_of_ble_eq_true rfl)) dL_ferry_4 ⟨(Nat.le_of_ble_eq_true rfl), (Nat.le_of_ble_eq_true rfl)⟩) hP hD hS hA [0, 1, 2] [3] rfl rfl (by decide) (by decide) (fun u1 H locs _ hP hD hS => ?_)
  have hP : va_P D vwCl [(oa, .inl (cy 1, 1, .inr (.inl (fun _ => 0))))] H := hP
  have hD : va_D A [(oa, .inl (cy 1, 1, .inr (.inl (fun _ => 0))))] := hD
  refine lv_i2l (v := 0) hx hb dL_ferry_7 (by decide) ?_
  refine va_last hx hb hKX.1 hP hD hS 0 1 rfl rfl (vind (by decide)) dL_ferry_8 (fun H locs hP hD hS => ?_)
  have hP : va_P D vwCl [(oa, .inl (cy 1, 1, .inr (.inl (vp_updL (fun _ => 0) 0 0))))] H := hP
  have hD : va_D A [(oa, .inl (cy 1, 1, .inr (.inl (vp_updL (fun _ => 0) 0 0))))] := hD
  refine lv_goto (tgt := 15) hx hb dL_ferry_9 (by decide) ?_
  refine lv_iconst (v := 0) hx hb dL_ferry_15 (by decide) ?_
  exact en_i hx hb hr hlocks () rfl trivial (hP.sub [0] rfl) (hD.sub [0] (by decide) rfl) hS (Nat.le_of_ble_eq_true rfl) (Nat.le_of_ble_eq_true rfl) dL_ferry_16
set_option maxHeartbeats 4000000 in
set_option maxRecDepth 100000 in
theorem l_ferry_o (l : Launch) (D : va_G) (cy : Nat → ClassId) (sa sb : Nat) (hl0 : l.stackTraces = false) (xh : Nat) (xq : Nat → Nat) (oa : Nat) (xw : Int32) (ho : xw.toInt < 0 ∨ 5 < xw.toInt) (sz : Nat) : Met l yL_ferry wsL_ferry ({ frames := 7, cells := 1, slots := 6, locals := 121 }) (wPreT D cy sa sb [.ref xh, .int xw, .ref oa] sz [(xc0 cy xh xq), (oa, .inl (cy 1, 1, .inr (.inl (fun _ => 0))))]) (wQi D 1 (fun _ : Unit => True) (fun _u : Unit => []) (va_A [(xc0 cy xh xq), (oa, .inl (cy 1, 1, .inr (.inl (fun _ => 0))))] sz)) 1 6 (va_A [(xc0 cy xh xq), (oa, .inl (cy 1, 1, .inr (.inl (fun _ => 0))))] sz) := by
  refine met_goW (y := yL_ferry) (ws := wsL_ferry) (av := [.ref xh, .int xw, .ref oa]) (cc := cL_ferry) (maxL := 4) (ret := (some .int)) (hh := [(0, 9, 12, 13)]) (Qc := fun A => wQi D 1 (fun _ : Unit => True) (fun _u : Unit => []) A) (by decide) rfl (Nat.le_of_ble_eq_true rfl) ?_
  intro p e s m below meth c ls A hx hb hr hml hown hts hlocks htab hKX hET hP hD hA hS hl
  have hown : s.vm.findClass RL = some m.cls := hown
  have hl : lv_has ls 4 [(0, .ref xh), (1, .int xw), (2, .ref oa)] := hl
  refine lv_aload_n hx hb dL_ferry_0 rfl (lv_at hl 2 rfl) ?_
  refine lv_iconst (v := 0) hx hb dL_ferry_1 (by decide) ?_
  refine lv_aload_n hx hb dL_ferry_2 rfl (lv_at hl 0 rfl) ?_
  refine lv_iload_n hx hb dL_ferry_3 rfl (lv_at hl 1 rfl) ?_
  have hF := va_free (wc := [(xc0 cy xh xq)]) hD hS hA [0] rfl
  refine vx_calli (vx_runV (As := [.int xw]) (rest := [.int 0, .ref oa]) ⟨hx, hb, hml, hown, hts⟩ (c_ferry_o l D cy _ _ hl0 xh xq xw ho _) (cwV 1 hts gL_ferry_X11_ferry rfl rfl rfl (by decide +kernel) ⟨(Nat.le_of_ble_eq_true rfl), (Nat.le_of_ble_eq_true rfl)⟩) (pre_VT hKX hP hD hET hS hA (ci := 11) (q0 := 0) rfl rfl [0] rfl (by decide) rfl) rfl rfl hl.1 rfl (lv_room (Nat.le_of_ble_eq_true rfl)) dL_ferry_4 ⟨(Nat.le_of_ble_eq_true rfl), (Nat.le_of_ble_eq_true rfl)⟩) hS (fun q _ h => hF q h) hF (fun q _ h => hF q h) (fun E ce q9 u9 t9 H locs ht hvm hpx hBX hz hk hS hce hcv hcl => ?_) (fun r9 u9 t9 H9 locs9 h1 h2 hpost h4 h5 h6 h7 => hpost.2.elim)
  obtain rfl : E = nsE := hBX
  refine vx_catch (own := RL) (name := nsE) hown [] ⟨0, 9, 12, 13⟩ [] htab (fun z h9 => nomatch h9) (by decide) (by decide) (hts (.classLink RL 13 "java/util/NoSuchElementException") (by decide +kernel)) (va_Nw.use rfl (hET.2.2.2.2 (.castable nsE nsE) (by decide +kernel))) hce hcv hcl ?_
  have hP : va_P D vwCl [] H := fun k q h => by simp at h
  have hD : va_D A [] := ⟨fun i j p q h => by simp at h, fun k q h => by simp at h⟩
  refine lv_astore_n (lv' := [(3, .ref q9), (0, .ref xh), (1, .int xw), (2, .ref oa)]) hx hb dL_ferry_12 rfl hl (by decide) rfl (fun ls hl => ?_)
  refine lv_iconst (v := 1) hx hb dL_ferry_13 (by decide) ?_
  exact en_i hx hb hr hlocks () rfl trivial (hP.sub [] rfl) (hD.sub [] (by decide) rfl) hS (Nat.le_of_ble_eq_true rfl) (Nat.le_of_ble_eq_true rfl) dL_ferry_14
