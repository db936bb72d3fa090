theorem iw_X12_tries_X12 : ∀ w ∈ wsX120, w ∈ wsX12_tries := by decide +kernel
set_option maxHeartbeats 4000000 in
set_option maxRecDepth 100000 in
theorem c_tries (l : Launch) (D : va_G) (cy : Nat → ClassId) (mh : Nat) (mq : Nat → Nat) (sz : Nat) : Met l yX12_tries wsX12_tries ({ frames := 0, cells := 0, slots := 0, locals := 0 }) (wPre D cy [.ref mh, .int 0, .int 0, .int 0, .int 0] sz [(mh, .inr (12, [.int 0, .int 100, .int 200, .int 5, .int 100, .int 0, .int 0, .int 0, .int 0, .int 0, .int 0, .ref (mq 0), .int 0, .ref (mq 1), .ref (mq 2), .ref (mq 3), .ref (mq 4), .ref (mq 5), .ref (mq 6), .ref (mq 7), .ref (mq 8), .ref (mq 9), .ref (mq 10), .int 0, .ref (mq 11), .ref (mq 12), .ref (mq 13), .int 0, .ref (mq 14), .ref (mq 15), .ref (mq 16), .ref (mq 17), .ref (mq 18), .int 0, .int 0, .int 0, .int 0, .int 0, .int 0, .int 0, .int (-1), .ref (mq 19), .ref (mq 20), .ref (mq 21), .ref (mq 22), .ref (mq 23), .ref (mq 24), .int (-1), .int 0, .int 0, .ref (mq 25), .ref (mq 26), .ref (mq 27), .ref (mq 28), .ref (mq 29)]))]) (wQv D (fun _ : Unit => True) (fun _u : Unit => [(mh, .inr (12, [.int 0, .int 100, .int 200, .int 5, .int 100, .int 0, .int 0, .int 0, .int 0, .int 0, .int 0, .ref (mq 0), .int 0, .ref (mq 1), .ref (mq 2), .ref (mq 3), .ref (mq 4), .ref (mq 5), .ref (mq 6), .ref (mq 7), .ref (mq 8), .ref (mq 9), .ref (mq 10), .int 0, .ref (mq 11), .ref (mq 12), .ref (mq 13), .int 0, .ref (mq 14), .ref (mq 15), .ref (mq 16), .ref (mq 17), .ref (mq 18), .int 0, .int 0, .int 0, .int 0, .int 0, .int 0, .int 0, .int (-1), .ref (mq 19), .ref (mq 20), .ref (mq 21), .ref (mq 22), .ref (mq 23), .ref (mq 24), .int 0, .int 0, .int 0, .ref (mq 25), .ref (mq 26), .ref (mq 27), .ref (mq 28), .ref (mq 29)]))]) (va_A [(mh, .inr (12, [.int 0, .int 100, .int 200, .int 5, .int 100, .int 0, .int 0, .int 0, .int 0, .int 0, .int 0, .ref (mq 0), .int 0, .ref (mq 1), .ref (mq 2), .ref (mq 3), .ref (mq 4), .ref (mq 5), .ref (mq 6), .ref (mq 7), .ref (mq 8), .ref (mq 9), .ref (mq 10), .int 0, .ref (mq 11), .ref (mq 12), .ref (mq 13), .int 0, .ref (mq 14), .ref (mq 15), .ref (mq 16), .ref (mq 17), .ref (mq 18), .int 0, .int 0, .int 0, .int 0, .int 0, .int 0, .int 0, .int (-1), .ref (mq 19), .ref (mq 20), .ref (mq 21), .ref (mq 22), .ref (mq 23), .ref (mq 24), .int (-1), .int 0, .int 0, .ref (mq 25), .ref (mq 26), .ref (mq 27), .ref (mq 28), .ref (mq 29)]))] sz)) 0 0 (va_A [(mh, .inr (12, [.int 0, .int 100, .int 200, .int 5, .int 100, .int 0, .int 0, .int 0, .int 0, .int 0, .int 0, .ref (mq 0), .int 0, .ref (mq 1), .ref (mq 2), .ref (mq 3), .ref (mq 4), .ref (mq 5), .ref (mq 6), .ref (mq 7), .ref (mq 8), .ref (mq 9), .ref (mq 10), .int 0, .ref (mq 11), .ref (mq 12), .ref (mq 13), .int 0, .ref (mq 14), .ref (mq 15), .ref (mq 16), .ref (mq 17), .ref (mq 18), .int 0, .int 0, .int 0, .int 0, .int 0, .int 0, .int 0, .int (-1), .ref (mq 19), .ref (mq 20), .ref (mq 21), .ref (mq 22), .ref (mq 23), .ref (mq 24), .int (-1), .int 0, .int 0, .ref (mq 25), .ref (mq 26), .ref (mq 27), .ref (mq 28), .ref (mq 29)]))] sz) := by
  refine met_go (y := yX12_tries) (ws := wsX12_tries) (av := [.ref mh, .int 0, .int 0, .int 0, .int 0]) (cc := cX12_tries) (maxL := 10) (ret := none) (Qc := fun A => wQv D (fun _ : Unit => True) (fun _u : Unit => [(mh, .inr (12, [.int 0, .int 100, .int 200, .int 5, .int 100, .int 0, .int 0, .int 0, .int 0, .int 0, .int 0, .ref (mq 0), .int 0, .ref (mq 1), .ref (mq 2), .ref (mq 3), .ref (mq 4), .ref (mq 5), .ref (mq 6), .ref (mq 7), .ref (mq 8), .ref (mq 9), .ref (mq 10), .int 0, .ref (mq 11), .ref (mq 12), .ref (mq 13), .int 0, .ref (mq 14), .ref (mq 15), .ref (mq 16), .ref (mq 17), .ref (mq 18), .int 0, .int 0, .int 0, .int 0, .int 0, .int 0, .int 0, .int (-1), .ref (mq 19), .ref (mq 20), .ref (mq 21), .ref (mq 22), .ref (mq 23), .ref (mq 24), .int 0, .int 0, .int 0, .ref (mq 25), .ref (mq 26), .ref (mq 27), .ref (mq 28), .ref (mq 29)]))]) A) (by decide) rfl (Nat.le_of_ble_eq_true rfl) ?_
  intro p e s m below meth c ls A hx hb hr hml hown hts hlocks hname hKX hP hD hA hS hl
  have hown : s.vm.findClass RX12 = some m.cls := hown
  have hl : lv_has ls 10 [(0, .ref mh), (1, .int 0), (2, .int 0), (3, .int 0), (4, .int 0)] := hl
  refine lv_iload_n hx hb dX12_tries_0 rfl (lv_at hl 1 rfl) ?_
  refine lv_iload_n hx hb dX12_tries_1 rfl (lv_at hl 2 rfl) ?_
  refine lv_icmp_ne (tgt := 60) hx hb dX12_tries_2 (by decide) (fun c9 => absurd (by decide) c9) (fun _ => ?_)
  refine lv_aload_n hx hb dX12_tries_5 rfl (lv_at hl 0 rfl) ?_
  refine lv_iload hx hb dX12_tries_6 (lv_at hl 4 rfl) ?_
  refine va_put (D := D) (ci := 12) (v := .int 0) (ty := .int) (C := RX12) (T := TX12) (N := 55) hx hb hts iw_X12_tries_X12 tyX12 tyX12_ok nmX12 hown hKX.1 hP hD hS 0 rfl rfl 48 (by decide) (hts (.fieldLink RX12 300 "TrainFerryModel" "bestWorst" "I") (by decide +kernel)) (fun _ h9 => h9) rfl (by decide +kernel) rfl rfl (Nat.le_of_ble_eq_true rfl) dX12_tries_8 (fun H locs hP hD hS => ?_)
  have hP : va_P D vwCl [(mh, .inr (12, [.int 0, .int 100, .int 200, .int 5, .int 100, .int 0, .int 0, .int 0, .int 0, .int 0, .int 0, .ref (mq 0), .int 0, .ref (mq 1), .ref (mq 2), .ref (mq 3), .ref (mq 4), .ref (mq 5), .ref (mq 6), .ref (mq 7), .ref (mq 8), .ref (mq 9), .ref (mq 10), .int 0, .ref (mq 11), .ref (mq 12), .ref (mq 13), .int 0, .ref (mq 14), .ref (mq 15), .ref (mq 16), .ref (mq 17), .ref (mq 18), .int 0, .int 0, .int 0, .int 0, .int 0, .int 0, .int 0, .int (-1), .ref (mq 19), .ref (mq 20), .ref (mq 21), .ref (mq 22), .ref (mq 23), .ref (mq 24), .int (-1), .int 0, .int 0, .ref (mq 25), .ref (mq 26), .ref (mq 27), .ref (mq 28), .ref (mq 29)]))] H := hP
  have hD : va_D A [(mh, .inr (12, [.int 0, .int 100, .int 200, .int 5, .int 100, .int 0, .int 0, .int 0, .int 0, .int 0, .int 0, .ref (mq 0), .int 0, .ref (mq 1), .ref (mq 2), .ref (mq 3), .ref (mq 4), .ref (mq 5), .ref (mq 6), .ref (mq 7), .ref (mq 8), .ref (mq 9), .ref (mq 10), .int 0, .ref (mq 11), .ref (mq 12), .ref (mq 13), .int 0, .ref (mq 14), .ref (mq 15), .ref (mq 16), .ref (mq 17), .ref (mq 18), .int 0, .int 0, .int 0, .int 0, .int 0, .int 0, .int 0, .int (-1), .ref (mq 19), .ref (mq 20), .ref (mq 21), .ref (mq 22), .ref (mq 23), .ref (mq 24), .int (-1), .int 0, .int 0, .ref (mq 25), .ref (mq 26), .ref (mq 27), .ref (mq 28), .ref (mq 29)]))] := hD
  refine lv_aload_n hx hb dX12_tries_11 rfl (lv_at hl 0 rfl) ?_
  refine lv_iload_n hx hb dX12_tries_12 rfl (lv_at hl 2 rfl) ?_
  refine va_put (D := D) (ci := 12) (v := .int 0) (ty := .int) (C := RX12) (T := TX12) (N := 55) hx hb hts iw_X12_tries_X12 tyX12 tyX12_ok nmX12 hown hKX.1 hP hD hS 0 rfl rfl 47 (by decide) (hts (.fieldLink RX12 303 "TrainFerryModel" "bestSteps" "I") (by decide +kernel)) (fun _ h9 => h9) rfl (by decide +kernel) rfl rfl (Nat.le_of_ble_eq_true rfl) dX12_tries_13 (fun H locs hP hD hS => ?_)
  have hP : va_P D vwCl [(mh, .inr (12, [.int 0, .int 100, .int 200, .int 5, .int 100, .int 0, .int 0, .int 0, .int 0, .int 0, .int 0, .ref (mq 0), .int 0, .ref (mq 1), .ref (mq 2), .ref (mq 3), .ref (mq 4), .ref (mq 5), .ref (mq 6), .ref (mq 7), .ref (mq 8), .ref (mq 9), .ref (mq 10), .int 0, .ref (mq 11), .ref (mq 12), .ref (mq 13), .int 0, .ref (mq 14), .ref (mq 15), .ref (mq 16), .ref (mq 17), .ref (mq 18), .int 0, .int 0, .int 0, .int 0, .int 0, .int 0, .int 0, .int (-1), .ref (mq 19), .ref (mq 20), .ref (mq 21), .ref (mq 22), .ref (mq 23), .ref (mq 24), .int 0, .int 0, .int 0, .ref (mq 25), .ref (mq 26), .ref (mq 27), .ref (mq 28), .ref (mq 29)]))] H := hP
  have hD : va_D A [(mh, .inr (12, [.int 0, .int 100, .int 200, .int 5, .int 100, .int 0, .int 0, .int 0, .int 0, .int 0, .int 0, .ref (mq 0), .int 0, .ref (mq 1), .ref (mq 2), .ref (mq 3), .ref (mq 4), .ref (mq 5), .ref (mq 6), .ref (mq 7), .ref (mq 8), .ref (mq 9), .ref (mq 10), .int 0, .ref (mq 11), .ref (mq 12), .ref (mq 13), .int 0, .ref (mq 14), .ref (mq 15), .ref (mq 16), .ref (mq 17), .ref (mq 18), .int 0, .int 0, .int 0, .int 0, .int 0, .int 0, .int 0, .int (-1), .ref (mq 19), .ref (mq 20), .ref (mq 21), .ref (mq 22), .ref (mq 23), .ref (mq 24), .int 0, .int 0, .int 0, .ref (mq 25), .ref (mq 26), .ref (mq 27), .ref (mq 28), .ref (mq 29)]))] := hD
  refine lv_iconst (v := 0) hx hb dX12_tries_16 (by decide) ?_
  refine lv_istore (lv' := [(5, .int 0), (0, .ref mh), (1, .int 0), (2, .int 0), (3, .int 0), (4, .int 0)]) hx hb dX12_tries_17 hl (by decide) rfl (fun ls hl => ?_)
  refine lv_iload hx hb dX12_tries_19 (lv_at hl 0 rfl) ?_
  refine lv_iload_n hx hb dX12_tries_21 rfl (lv_at hl 3 rfl) ?_
  refine lv_icmp_ge (tgt := 59) hx hb dX12_tries_22 (by decide) (fun _ => ?_) (fun c9 => absurd (by decide) c9)
  exact en_v hx hb hr hlocks () trivial (hP.sub [0] rfl) (hD.sub [0] (by decide) rfl) hS (Nat.le_of_ble_eq_true rfl) (Nat.le_of_ble_eq_true rfl) dX12_tries_59
theorem iw_X12_loading_X12 : ∀ w ∈ wsX120, w ∈ wsX12_loading := by decide +kernel
set_option maxHeartbeats 4000000 in
set_option maxRecDepth 100000 in
theorem m_loading (l : Launch) (D : va_G) (cy : Nat → ClassId) (mh : Nat) (mq : Nat → Nat) (xa : Int32) (xb : Int32) (xc : Int32) (sz : Nat) : Met l yX12_loading wsX12_loading ({ frames := 1, cells := 0, slots := 0, locals := 29 }) (wPre D cy [.ref mh, .int xa, .int xb, .int xc] sz [(mc0 cy mh mq), (mc11 cy mh mq), (mc20 cy mh mq), (mc21 cy mh mq)]) (wQi D (fLoad xa xb xc) (fun _ : Unit => True) (fun _u : Unit => []) (va_A [(mc0 cy mh mq), (mc11 cy mh mq), (mc20 cy mh mq), (mc21 cy mh mq)] sz)) 0 0 (va_A [(mc0 cy mh mq), (mc11 cy mh mq), (mc20 cy mh mq), (mc21 cy mh mq)] sz) := by
  refine met_go (y := yX12_loading) (ws := wsX12_loading) (av := [.ref mh, .int xa, .int xb, .int xc]) (cc := cX12_loading) (maxL := 5) (ret := (some .int)) (Qc := fun A => wQi D (fLoad xa xb xc) (fun _ : Unit => True) (fun _u : Unit => []) A) (by decide) rfl (Nat.le_of_ble_eq_true rfl) ?_
  intro p e s m below meth c ls A hx hb hr hml hown hts hlocks hname hKX hP hD hA hS hl
  have hown : s.vm.findClass RX12 = some m.cls := hown
  have hl : lv_has ls 5 [(0, .ref mh), (1, .int xa), (2, .int xb), (3, .int xc)] := hl
  rcases sp1 xa with rfl | o1
  · rcases sp1 xb with rfl | o2
    · rcases sp1 xc with rfl | o3
      · refine lv_aload_n hx hb dX12_loading_0 rfl (lv_at hl 0 rfl) ?_
        refine lv_iconst (v := 0) hx hb dX12_loading_1 (by decide) ?_
        refine va_put (D := D) (ci := 12) (v := .int 0) (ty := .int) (C := RX12) (T := TX12) (N := 55) hx hb hts iw_X12_loading_X12 tyX12 tyX12_ok nmX12 hown hKX.1 hP hD hS 0 rfl rfl 0 (by decide) (hts (.fieldLink RX12 1 "TrainFerryModel" "thrown" "I") (by decide +kernel)) (fun _ h9 => h9) rfl (by decide +kernel) rfl rfl (Nat.le_of_ble_eq_true rfl) dX12_loading_2 (fun H locs hP hD hS => ?_)
        have hP : va_P D vwCl [(mh, .inr (12, [.int 0, .int 100, .int 200, .int 5, .int 100, .int 0, .int 0, .int 0, .int 0, .int 0, .int 0, .ref (mq 0), .int 0, .ref (mq 1), .ref (mq 2), .ref (mq 3), .ref (mq 4), .ref (mq 5), .ref (mq 6), .ref (mq 7), .ref (mq 8), .ref (mq 9), .ref (mq 10), .int 0, .ref (mq 11), .ref (mq 12), .ref (mq 13), .int 0, .ref (mq 14), .ref (mq 15), .ref (mq 16), .ref (mq 17), .ref (mq 18), .int 0, .int 0, .int 0, .int 0, .int 0, .int 0, .int 0, .int (-1), .ref (mq 19), .ref (mq 20), .ref (mq 21), .ref (mq 22), .ref (mq 23), .ref (mq 24), .int 0, .int 0, .int 0, .ref (mq 25), .ref (mq 26), .ref (mq 27), .ref (mq 28), .ref (mq 29)])), (mc11 cy mh mq), (mc20 cy mh mq), (mc21 cy mh mq)] H := hP
        have hD : va_D A [(mh, .inr (12, [.int 0, .int 100, .int 200, .int 5, .int 100, .int 0, .int 0, .int 0, .int 0, .int 0, .int 0, .ref (mq 0), .int 0, .ref (mq 1), .ref (mq 2), .ref (mq 3), .ref (mq 4), .ref (mq 5), .ref (mq 6), .ref (mq 7), .ref (mq 8), .ref (mq 9), .ref (mq 10), .int 0, .ref (mq 11), .ref (mq 12), .ref (mq 13), .int 0, .ref (mq 14), .ref (mq 15), .ref (mq 16), .ref (mq 17), .ref (mq 18), .int 0, .int 0, .int 0, .int 0, .int 0, .int 0, .int 0, .int (-1), .ref (mq 19), .ref (mq 20), .ref (mq 21), .ref (mq 22), .ref (mq 23), .ref (mq 24), .int 0, .int 0, .int 0, .ref (mq 25), .ref (mq 26), .ref (mq 27), .ref (mq 28), .ref (mq 29)])), (mc11 cy mh mq), (mc20 cy mh mq), (mc21 cy mh mq)] := hD
        refine lv_iload_n hx hb dX12_loading_5 rfl (lv_at hl 1 rfl) ?_
        refine lv_iconst (v := 0) hx hb dX12_loading_6 (by decide) ?_
        refine lv_bipush (v := 6) hx hb dX12_loading_7 (by decide) ?_
        refine cl_i (wr := [(mh, .inr (12, [.int 0, .int 100, .int 200, .int 5, .int 100, .int 0, .int 0, .int 0, .int 0, .int 0, .int 0, .ref (mq 0), .int 0, .ref (mq 1), .ref (mq 2), .ref (mq 3), .ref (mq 4), .ref (mq 5), .ref (mq 6), .ref (mq 7), .ref (mq 8), .ref (mq 9), .ref (mq 10), .int 0, .ref (mq 11), .ref (mq 12), .ref (mq 13), .int 0, .ref (mq 14), .ref (mq 15), .ref (mq 16), .ref (mq 17), .ref (mq 18), .int 0, .int 0, .int 0, .int 0, .int 0, .int 0, .int 0, .int (-1), .ref (mq 19), .ref (mq 20), .ref (mq 21), .ref (mq 22), .ref (mq 23), .ref (mq 24), .int 0, .int 0, .int 0, .ref (mq 25), .ref (mq 26), .ref (mq 27), .ref (mq 28), .ref (mq 29)])), (mc11 cy mh mq), (mc20 cy mh mq), (mc21 cy mh mq)]) (va_runS (As := [.int 0, .int 0, .int 6]) (rest := []) ⟨hx, hb, hml, hown, hts⟩ (c_within l D cy 0 0 6 _) (va_cwS 3 hts gX12_loading_X12_within rfl rfl rfl (by decide +kernel) ⟨(Nat.le_of_ble_eq_true rfl), (Nat.le_of_ble_eq_true rfl)⟩) (pre_S hKX hP hD [] rfl (by decide) rfl) rfl rfl hl.1 rfl (lv_room (Nat.le_of_ble_eq_true rfl)) dX12_loading_9 ⟨(Nat.le_of_ble_eq_true rfl), (Nat.le_of_ble_eq_true rfl)⟩) hP hD hS hA [] [0, 1, 2, 3] rfl rfl (by decide) (by decide) (fun u4 H locs _ hP hD hS => ?_)
        have hP : va_P D vwCl [(mh, .inr (12, [.int 0, .int 100, .int 200, .int 5, .int 100, .int 0, .int 0, .int 0, .int 0, .int 0, .int 0, .ref (mq 0), .int 0, .ref (mq 1), .ref (mq 2), .ref (mq 3), .ref (mq 4), .ref (mq 5), .ref (mq 6), .ref (mq 7), .ref (mq 8), .ref (mq 9), .ref (mq 10), .int 0, .ref (mq 11), .ref (mq 12), .ref (mq 13), .int 0, .ref (mq 14), .ref (mq 15), .ref (mq 16), .ref (mq 17), .ref (mq 18), .int 0, .int 0, .int 0, .int 0, .int 0, .int 0, .int 0, .int (-1), .ref (mq 19), .ref (mq 20), .ref (mq 21), .ref (mq 22), .ref (mq 23), .ref (mq 24), .int 0, .int 0, .int 0, .ref (mq 25), .ref (mq 26), .ref (mq 27), .ref (mq 28), .ref (mq 29)])), (mc11 cy mh mq), (mc20 cy mh mq), (mc21 cy mh mq)] H := hP
        have hD : va_D A [(mh, .inr (12, [.int 0, .int 100, .int 200, .int 5, .int 100, .int 0, .int 0, .int 0, .int 0, .int 0, .int 0, .ref (mq 0), .int 0, .ref (mq 1), .ref (mq 2), .ref (mq 3), .ref (mq 4), .ref (mq 5), .ref (mq 6), .ref (mq 7), .ref (mq 8), .ref (mq 9), .ref (mq 10), .int 0, .ref (mq 11), .ref (mq 12), .ref (mq 13), .int 0, .ref (mq 14), .ref (mq 15), .ref (mq 16), .ref (mq 17), .ref (mq 18), .int 0, .int 0, .int 0, .int 0, .int 0, .int 0, .int 0, .int (-1), .ref (mq 19), .ref (mq 20), .ref (mq 21), .ref (mq 22), .ref (mq 23), .ref (mq 24), .int 0, .int 0, .int 0, .ref (mq 25), .ref (mq 26), .ref (mq 27), .ref (mq 28), .ref (mq 29)])), (mc11 cy mh mq), (mc20 cy mh mq), (mc21 cy mh mq)] := hD
        refine lv_cst 1 (by decide) ?_
        refine lv_if_eq (tgt := 53) hx hb dX12_loading_12 (by decide) (fun c9 => absurd c9 (by decide)) (fun _ => ?_)
        refine lv_iload_n hx hb dX12_loading_15 rfl (lv_at hl 2 rfl) ?_
        refine lv_iconst (v := 0) hx hb dX12_loading_16 (by decide) ?_
        refine lv_bipush (v := 6) hx hb dX12_loading_17 (by decide) ?_
        refine cl_i (wr := [(mh, .inr (12, [.int 0, .int 100, .int 200, .int 5, .int 100, .int 0, .int 0, .int 0, .int 0, .int 0, .int 0, .ref (mq 0), .int 0, .ref (mq 1), .ref (mq 2), .ref (mq 3), .ref (mq 4), .ref (mq 5), .ref (mq 6), .ref (mq 7), .ref (mq 8), .ref (mq 9), .ref (mq 10), .int 0, .ref (mq 11), .ref (mq 12), .ref (mq 13), .int 0, .ref (mq 14), .ref (mq 15), .ref (mq 16), .ref (mq 17), .ref (mq 18), .int 0, .int 0, .int 0, .int 0, .int 0, .int 0, .int 0, .int (-1), .ref (mq 19), .ref (mq 20), .ref (mq 21), .ref (mq 22), .ref (mq 23), .ref (mq 24), .int 0, .int 0, .int 0, .ref (mq 25), .ref (mq 26), .ref (mq 27), .ref (mq 28), .ref (mq 29)])), (mc11 cy mh mq), (mc20 cy mh mq), (mc21 cy mh mq)]) (va_runS (As := [.int 0, .int 0, .int 6]) (rest := []) ⟨hx, hb, hml, hown, hts⟩ (c_within l D cy 0 0 6 _) (va_cwS 3 hts gX12_loading_X12_within rfl rfl rfl (by decide +kernel) ⟨(Nat.le_of_ble_eq_true rfl), (Nat.le_of_ble_eq_true rfl)⟩) (pre_S hKX hP hD [] rfl (by decide) rfl) rfl rfl hl.1 rfl (lv_room (Nat.le_of_ble_eq_true rfl)) dX12_loading_19 ⟨(Nat.le_of_ble_eq_true rfl), (Nat.le_of_ble_eq_true rfl)⟩) hP hD hS hA [] [0, 1, 2, 3] rfl rfl (by decide) (by decide) (fun u5 H locs _ hP hD hS => ?_)
        have hP : va_P D vwCl [(mh, .inr (12, [.int 0, .int 100, .int 200, .int 5, .int 100, .int 0, .int 0, .int 0, .int 0, .int 0, .int 0, .ref (mq 0), .int 0, .ref (mq 1), .ref (mq 2), .ref (mq 3), .ref (mq 4), .ref (mq 5), .ref (mq 6), .ref (mq 7), .ref (mq 8), .ref (mq 9), .ref (mq 10), .int 0, .ref (mq 11), .ref (mq 12), .ref (mq 13), .int 0, .ref (mq 14), .ref (mq 15), .ref (mq 16), .ref (mq 17), .ref (mq 18), .int 0, .int 0, .int 0, .int 0, .int 0, .int 0, .int 0, .int (-1), .ref (mq 19), .ref (mq 20), .ref (mq 21), .ref (mq 22), .ref (mq 23), .ref (mq 24), .int 0, .int 0, .int 0, .ref (mq 25), .ref (mq 26), .ref (mq 27), .ref (mq 28), .ref (mq 29)])), (mc11 cy mh mq), (mc20 cy mh mq), (mc21 cy mh mq)] H := hP
        have hD : va_D A [(mh, .inr (12, [.int 0, .int 100, .int 200, .int 5, .int 100, .int 0, .int 0, .int 0, .int 0, .int 0, .int 0, .ref (mq 0), .int 0, .ref (mq 1), .ref (mq 2), .ref (mq 3), .ref (mq 4), .ref (mq 5), .ref (mq 6), .ref (mq 7), .ref (mq 8), .ref (mq 9), .ref (mq 10), .int 0, .ref (mq 11), .ref (mq 12), .ref (mq 13), .int 0, .ref (mq 14), .ref (mq 15), .ref (mq 16), .ref (mq 17), .ref (mq 18), .int 0, .int 0, .int 0, .int 0, .int 0, .int 0, .int 0, .int (-1), .ref (mq 19), .ref (mq 20), .ref (mq 21), .ref (mq 22), .ref (mq 23), .ref (mq 24), .int 0, .int 0, .int 0, .ref (mq 25), .ref (mq 26), .ref (mq 27), .ref (mq 28), .ref (mq 29)])), (mc11 cy mh mq), (mc20 cy mh mq), (mc21 cy mh mq)] := hD
        refine lv_cst 1 (by decide) ?_
        refine lv_if_eq (tgt := 53) hx hb dX12_loading_22 (by decide) (fun c9 => absurd c9 (by decide)) (fun _ => ?_)
        refine lv_iload_n hx hb dX12_loading_25 rfl (lv_at hl 3 rfl) ?_
        refine lv_iconst (v := 0) hx hb dX12_loading_26 (by decide) ?_
        refine lv_bipush (v := 6) hx hb dX12_loading_27 (by decide) ?_
        refine cl_i (wr := [(mh, .inr (12, [.int 0, .int 100, .int 200, .int 5, .int 100, .int 0, .int 0, .int 0, .int 0, .int 0, .int 0, .ref (mq 0), .int 0, .ref (mq 1), .ref (mq 2), .ref (mq 3), .ref (mq 4), .ref (mq 5), .ref (mq 6), .ref (mq 7), .ref (mq 8), .ref (mq 9), .ref (mq 10), .int 0, .ref (mq 11), .ref (mq 12), .ref (mq 13), .int 0, .ref (mq 14), .ref (mq 15), .ref (mq 16), .ref (mq 17), .ref (mq 18), .int 0, .int 0, .int 0, .int 0, .int 0, .int 0, .int 0, .int (-1), .ref (mq 19), .ref (mq 20), .ref (mq 21), .ref (mq 22), .ref (mq 23), .ref (mq 24), .int 0, .int 0, .int 0, .ref (mq 25), .ref (mq 26), .ref (mq 27), .ref (mq 28), .ref (mq 29)])), (mc11 cy mh mq), (mc20 cy mh mq), (mc21 cy mh mq)]) (va_runS (As := [.int 0, .int 0, .int 6]) (rest := []) ⟨hx, hb, hml, hown, hts⟩ (c_within l D cy 0 0 6 _) (va_cwS 3 hts gX12_loading_X12_within rfl rfl rfl (by decide +kernel) ⟨(Nat.le_of_ble_eq_true rfl), (Nat.le_of_ble_eq_true rfl)⟩) (pre_S hKX hP hD [] rfl (by decide) rfl) rfl rfl hl.1 rfl (lv_room (Nat.le_of_ble_eq_true rfl)) dX12_loading_29 ⟨(Nat.le_of_ble_eq_true rfl), (Nat.le_of_ble_eq_true rfl)⟩) hP hD hS hA [] [0, 1, 2, 3] rfl rfl (by decide) (by decide) (fun u6 H locs _ hP hD hS => ?_)
        have hP : va_P D vwCl [(mh, .inr (12, [.int 0, .int 100, .int 200, .int 5, .int 100, .int 0, .int 0, .int 0, .int 0, .int 0, .int 0, .ref (mq 0), .int 0, .ref (mq 1), .ref (mq 2), .ref (mq 3), .ref (mq 4), .ref (mq 5), .ref (mq 6), .ref (mq 7), .ref (mq 8), .ref (mq 9), .ref (mq 10), .int 0, .ref (mq 11), .ref (mq 12), .ref (mq 13), .int 0, .ref (mq 14), .ref (mq 15), .ref (mq 16), .ref (mq 17), .ref (mq 18), .int 0, .int 0, .int 0, .int 0, .int 0, .int 0, .int 0, .int (-1), .ref (mq 19), .ref (mq 20), .ref (mq 21), .ref (mq 22), .ref (mq 23), .ref (mq 24), .int 0, .int 0, .int 0, .ref (mq 25), .ref (mq 26), .ref (mq 27), .ref (mq 28), .ref (mq 29)])), (mc11 cy mh mq), (mc20 cy mh mq), (mc21 cy mh mq)] H := hP
        have hD : va_D A [(mh, .inr (12, [.int 0, .int 100, .int 200, .int 5, .int 100, .int 0, .int 0, .int 0, .int 0, .int 0, .int 0, .ref (mq 0), .int 0, .ref (mq 1), .ref (mq 2), .ref (mq 3), .ref (mq 4), .ref (mq 5), .ref (mq 6), .ref (mq 7), .ref (mq 8), .ref (mq 9), .ref (mq 10), .int 0, .ref (mq 11), .ref (mq 12), .ref (mq 13), .int 0, .ref (mq 14), .ref (mq 15), .ref (mq 16), .ref (mq 17), .ref (mq 18), .int 0, .int 0, .int 0, .int 0, .int 0, .int 0, .int 0, .int (-1), .ref (mq 19), .ref (mq 20), .ref (mq 21), .ref (mq 22), .ref (mq 23), .ref (mq 24), .int 0, .int 0, .int 0, .ref (mq 25), .ref (mq 26), .ref (mq 27), .ref (mq 28), .ref (mq 29)])), (mc11 cy mh mq), (mc20 cy mh mq), (mc21 cy mh mq)] := hD
        refine lv_cst 1 (by decide) ?_
        refine lv_if_eq (tgt := 53) hx hb dX12_loading_32 (by decide) (fun c9 => absurd c9 (by decide)) (fun _ => ?_)
        refine lv_iload_n hx hb dX12_loading_35 rfl (lv_at hl 1 rfl) ?_
        refine lv_iload_n hx hb dX12_loading_36 rfl (lv_at hl 2 rfl) ?_
        refine lv_iadd hx hb dX12_loading_37 ?_
        refine lv_cst 0 (by decide) ?_
        refine lv_iload_n hx hb dX12_loading_38 rfl (lv_at hl 3 rfl) ?_
        refine lv_iadd hx hb dX12_loading_39 ?_
        refine lv_cst 0 (by decide) ?_
        refine lv_bipush (v := 6) hx hb dX12_loading_40 (by decide) ?_
        refine lv_icmp_gt (tgt := 53) hx hb dX12_loading_42 (by decide) (fun c9 => absurd c9 (by decide)) (fun _ => ?_)
        refine lv_aload_n hx hb dX12_loading_45 rfl (lv_at hl 0 rfl) ?_
        refine va_get (D := D) (ci := 12) (v := .int 0) (C := RX12) (T := TX12) (N := 55) hx hb hts iw_X12_loading_X12 hown hKX.1 hP 0 rfl rfl 7 (by decide) (hts (.fieldLink RX12 161 "TrainFerryModel" "shore" "I") (by decide +kernel)) (fun _ h9 => h9) rfl dX12_loading_46 ?_
        refine lv_iconst (v := 2) hx hb dX12_loading_49 (by decide) ?_
        refine lv_icmp_ne (tgt := 55) hx hb dX12_loading_50 (by decide) (fun _ => ?_) (fun c9 => absurd c9 (by decide))
        refine lv_iload_n hx hb dX12_loading_55 rfl (lv_at hl 1 rfl) ?_
        refine lv_aload_n hx hb dX12_loading_56 rfl (lv_at hl 0 rfl) ?_
        refine va_get (D := D) (ci := 12) (v := .ref (mq 10)) (C := RX12) (T := TX12) (N := 55) hx hb hts iw_X12_loading_X12 hown hKX.1 hP 0 rfl rfl 22 (by decide) (hts (.fieldLink RX12 58 "TrainFerryModel" "many" "[I") (by decide +kernel)) (fun _ h9 => h9) rfl dX12_loading_57 ?_
        refine lv_aload_n hx hb dX12_loading_60 rfl (lv_at hl 0 rfl) ?_
        refine va_get (D := D) (ci := 12) (v := .int 0) (C := RX12) (T := TX12) (N := 55) hx hb hts iw_X12_loading_X12 hown hKX.1 hP 0 rfl rfl 7 (by decide) (hts (.fieldLink RX12 161 "TrainFerryModel" "shore" "I") (by decide +kernel)) (fun _ h9 => h9) rfl dX12_loading_61 ?_
        refine lv_iconst (v := 0) hx hb dX12_loading_64 (by decide) ?_
        refine cl_i (wr := [(mh, .inr (12, [.int 0, .int 100, .int 200, .int 5, .int 100, .int 0, .int 0, .int 0, .int 0, .int 0, .int 0, .ref (mq 0), .int 0, .ref (mq 1), .ref (mq 2), .ref (mq 3), .ref (mq 4), .ref (mq 5), .ref (mq 6), .ref (mq 7), .ref (mq 8), .ref (mq 9), .ref (mq 10), .int 0, .ref (mq 11), .ref (mq 12), .ref (mq 13), .int 0, .ref (mq 14), .ref (mq 15), .ref (mq 16), .ref (mq 17), .ref (mq 18), .int 0, .int 0, .int 0, .int 0, .int 0, .int 0, .int 0, .int (-1), .ref (mq 19), .ref (mq 20), .ref (mq 21), .ref (mq 22), .ref (mq 23), .ref (mq 24), .int 0, .int 0, .int 0, .ref (mq 25), .ref (mq 26), .ref (mq 27), .ref (mq 28), .ref (mq 29)])), (mc11 cy mh mq), (mc20 cy mh mq), (mc21 cy mh mq)]) (va_runS (As := [.int 0, .int 0]) (rest := [.ref (mq 10), .int 0]) ⟨hx, hb, hml, hown, hts⟩ (c_M_yardRow l D cy 0 0 _) (va_cwS 2 hts gX12_loading_X12_yardRow rfl rfl rfl (by decide +kernel) ⟨(Nat.le_of_ble_eq_true rfl), (Nat.le_of_ble_eq_true rfl)⟩) (pre_S hKX hP hD [] rfl (by decide) rfl) rfl rfl hl.1 rfl (lv_room (Nat.le_of_ble_eq_true rfl)) dX12_loading_65 ⟨(Nat.le_of_ble_eq_true rfl), (Nat.le_of_ble_eq_true rfl)⟩) hP hD hS hA [] [0, 1, 2, 3] rfl rfl (by decide) (by decide) (fun u7 H locs _ hP hD hS => ?_)
        have hP : va_P D vwCl [(mh, .inr (12, [.int 0, .int 100, .int 200, .int 5, .int 100, .int 0, .int 0, .int 0, .int 0, .int 0, .int 0, .ref (mq 0), .int 0, .ref (mq 1), .ref (mq 2), .ref (mq 3), .ref (mq 4), .ref (mq 5), .ref (mq 6), .ref (mq 7), .ref (mq 8), .ref (mq 9), .ref (mq 10), .int 0, .ref (mq 11), .ref (mq 12), .ref (mq 13), .int 0, .ref (mq 14), .ref (mq 15), .ref (mq 16), .ref (mq 17), .ref (mq 18), .int 0, .int 0, .int 0, .int 0, .int 0, .int 0, .int 0, .int (-1), .ref (mq 19), .ref (mq 20), .ref (mq 21), .ref (mq 22), .ref (mq 23), .ref (mq 24), .int 0, .int 0, .int 0, .ref (mq 25), .ref (mq 26), .ref (mq 27), .ref (mq 28), .ref (mq 29)])), (mc11 cy mh mq), (mc20 cy mh mq), (mc21 cy mh mq)] H := hP
        have hD : va_D A [(mh, .inr (12, [.int 0, .int 100, .int 200, .int 5, .int 100, .int 0, .int 0, .int 0, .int 0, .int 0, .int 0, .ref (mq 0), .int 0, .ref (mq 1), .ref (mq 2), .ref (mq 3), .ref (mq 4), .ref (mq 5), .ref (mq 6), .ref (mq 7), .ref (mq 8), .ref (mq 9), .ref (mq 10), .int 0, .ref (mq 11), .ref (mq 12), .ref (mq 13), .int 0, .ref (mq 14), .ref (mq 15), .ref (mq 16), .ref (mq 17), .ref (mq 18), .int 0, .int 0, .int 0, .int 0, .int 0, .int 0, .int 0, .int (-1), .ref (mq 19), .ref (mq 20), .ref (mq 21), .ref (mq 22), .ref (mq 23), .ref (mq 24), .int 0, .int 0, .int 0, .ref (mq 25), .ref (mq 26), .ref (mq 27), .ref (mq 28), .ref (mq 29)])), (mc11 cy mh mq), (mc20 cy mh mq), (mc21 cy mh mq)] := hD
        refine lv_cst 4 (by decide) ?_
        refine va_iald hx hb hKX.1 hP 1 0 rfl rfl (vind (by decide)) dX12_loading_68 ?_
        refine lv_cst 0 rfl ?_
        refine lv_icmp_gt (tgt := 106) hx hb dX12_loading_69 (by decide) (fun c9 => absurd c9 (by decide)) (fun _ => ?_)
        refine lv_iload_n hx hb dX12_loading_72 rfl (lv_at hl 2 rfl) ?_
        refine lv_aload_n hx hb dX12_loading_73 rfl (lv_at hl 0 rfl) ?_
        refine va_get (D := D) (ci := 12) (v := .ref (mq 10)) (C := RX12) (T := TX12) (N := 55) hx hb hts iw_X12_loading_X12 hown hKX.1 hP 0 rfl rfl 22 (by decide) (hts (.fieldLink RX12 58 "TrainFerryModel" "many" "[I") (by decide +kernel)) (fun _ h9 => h9) rfl dX12_loading_74 ?_
        refine lv_aload_n hx hb dX12_loading_77 rfl (lv_at hl 0 rfl) ?_
        refine va_get (D := D) (ci := 12) (v := .int 0) (C := RX12) (T := TX12) (N := 55) hx hb hts iw_X12_loading_X12 hown hKX.1 hP 0 rfl rfl 7 (by decide) (hts (.fieldLink RX12 161 "TrainFerryModel" "shore" "I") (by decide +kernel)) (fun _ h9 => h9) rfl dX12_loading_78 ?_
        refine lv_iconst (v := 1) hx hb dX12_loading_81 (by decide) ?_
        refine cl_i (wr := [(mh, .inr (12, [.int 0, .int 100, .int 200, .int 5, .int 100, .int 0, .int 0, .int 0, .int 0, .int 0, .int 0, .ref (mq 0), .int 0, .ref (mq 1), .ref (mq 2), .ref (mq 3), .ref (mq 4), .ref (mq 5), .ref (mq 6), .ref (mq 7), .ref (mq 8), .ref (mq 9), .ref (mq 10), .int 0, .ref (mq 11), .ref (mq 12), .ref (mq 13), .int 0, .ref (mq 14), .ref (mq 15), .ref (mq 16), .ref (mq 17), .ref (mq 18), .int 0, .int 0, .int 0, .int 0, .int 0, .int 0, .int 0, .int (-1), .ref (mq 19), .ref (mq 20), .ref (mq 21), .ref (mq 22), .ref (mq 23), .ref (mq 24), .int 0, .int 0, .int 0, .ref (mq 25), .ref (mq 26), .ref (mq 27), .ref (mq 28), .ref (mq 29)])), (mc11 cy mh mq), (mc20 cy mh mq), (mc21 cy mh mq)]) (va_runS (As := [.int 0, .int 1]) (rest := [.ref (mq 10), .int 0]) ⟨hx, hb, hml, hown, hts⟩ (c_M_yardRow l D cy 0 1 _) (va_cwS 2 hts gX12_loading_X12_yardRow rfl rfl rfl (by decide +kernel) ⟨(Nat.le_of_ble_eq_true rfl), (Nat.le_of_ble_eq_true rfl)⟩) (pre_S hKX hP hD [] rfl (by decide) rfl) rfl rfl hl.1 rfl (lv_room (Nat.le_of_ble_eq_true rfl)) dX12_loading_82 ⟨(Nat.le_of_ble_eq_true rfl), (Nat.le_of_ble_eq_true rfl)⟩) hP hD hS hA [] [0, 1, 2, 3] rfl rfl (by decide) (by decide) (fun u8 H locs _ hP hD hS => ?_)
        have hP : va_P D vwCl [(mh, .inr (12, [.int 0, .int 100, .int 200, .int 5, .int 100, .int 0, .int 0, .int 0, .int 0, .int 0, .int 0, .ref (mq 0), .int 0, .ref (mq 1), .ref (mq 2), .ref (mq 3), .ref (mq 4), .ref (mq 5), .ref (mq 6), .ref (mq 7), .ref (mq 8), .ref (mq 9), .ref (mq 10), .int 0, .ref (mq 11), .ref (mq 12), .ref (mq 13), .int 0, .ref (mq 14), .ref (mq 15), .ref (mq 16), .ref (mq 17), .ref (mq 18), .int 0, .int 0, .int 0, .int 0, .int 0, .int 0, .int 0, .int (-1), .ref (mq 19), .ref (mq 20), .ref (mq 21), .ref (mq 22), .ref (mq 23), .ref (mq 24), .int 0, .int 0, .int 0, .ref (mq 25), .ref (mq 26), .ref (mq 27), .ref (mq 28), .ref (mq 29)])), (mc11 cy mh mq), (mc20 cy mh mq), (mc21 cy mh mq)] H := hP
        have hD : va_D A [(mh, .inr (12, [.int 0, .int 100, .int 200, .int 5, .int 100, .int 0, .int 0, .int 0, .int 0, .int 0, .int 0, .ref (mq 0), .int 0, .ref (mq 1), .ref (mq 2), .ref (mq 3), .ref (mq 4), .ref (mq 5), .ref (mq 6), .ref (mq 7), .ref (mq 8), .ref (mq 9), .ref (mq 10), .int 0, .ref (mq 11), .ref (mq 12), .ref (mq 13), .int 0, .ref (mq 14), .ref (mq 15), .ref (mq 16), .ref (mq 17), .ref (mq 18), .int 0, .int 0, .int 0, .int 0, .int 0, .int 0, .int 0, .int (-1), .ref (mq 19), .ref (mq 20), .ref (mq 21), .ref (mq 22), .ref (mq 23), .ref (mq 24), .int 0, .int 0, .int 0, .ref (mq 25), .ref (mq 26), .ref (mq 27), .ref (mq 28), .ref (mq 29)])), (mc11 cy mh mq), (mc20 cy mh mq), (mc21 cy mh mq)] := hD
        refine lv_cst 5 (by decide) ?_
        refine va_iald hx hb hKX.1 hP 1 0 rfl rfl (vind (by decide)) dX12_loading_85 ?_
        refine lv_cst 0 rfl ?_
        refine lv_icmp_gt (tgt := 106) hx hb dX12_loading_86 (by decide) (fun c9 => absurd c9 (by decide)) (fun _ => ?_)
        refine lv_iload_n hx hb dX12_loading_89 rfl (lv_at hl 3 rfl) ?_
        refine lv_aload_n hx hb dX12_loading_90 rfl (lv_at hl 0 rfl) ?_
        refine va_get (D := D) (ci := 12) (v := .ref (mq 10)) (C := RX12) (T := TX12) (N := 55) hx hb hts iw_X12_loading_X12 hown hKX.1 hP 0 rfl rfl 22 (by decide) (hts (.fieldLink RX12 58 "TrainFerryModel" "many" "[I") (by decide +kernel)) (fun _ h9 => h9) rfl dX12_loading_91 ?_
        refine lv_aload_n hx hb dX12_loading_94 rfl (lv_at hl 0 rfl) ?_
        refine va_get (D := D) (ci := 12) (v := .int 0) (C := RX12) (T := TX12) (N := 55) hx hb hts iw_X12_loading_X12 hown hKX.1 hP 0 rfl rfl 7 (by decide) (hts (.fieldLink RX12 161 "TrainFerryModel" "shore" "I") (by decide +kernel)) (fun _ h9 => h9) rfl dX12_loading_95 ?_
        refine lv_iconst (v := 2) hx hb dX12_loading_98 (by decide) ?_
        refine cl_i (wr := [(mh, .inr (12, [.int 0, .int 100, .int 200, .int 5, .int 100, .int 0, .int 0, .int 0, .int 0, .int 0, .int 0, .ref (mq 0), .int 0, .ref (mq 1), .ref (mq 2), .ref (mq 3), .ref (mq 4), .ref (mq 5), .ref (mq 6), .ref (mq 7), .ref (mq 8), .ref (mq 9), .ref (mq 10), .int 0, .ref (mq 11), .ref (mq 12), .ref (mq 13), .int 0, .ref (mq 14), .ref (mq 15), .ref (mq 16), .ref (mq 17), .ref (mq 18), .int 0, .int 0, .int 0, .int 0, .int 0, .int 0, .int 0, .int (-1), .ref (mq 19), .ref (mq 20), .ref (mq 21), .ref (mq 22), .ref (mq 23), .ref (mq 24), .int 0, .int 0, .int 0, .ref (mq 25), .ref (mq 26), .ref (mq 27), .ref (mq 28), .ref (mq 29)])), (mc11 cy mh mq), (mc20 cy mh mq), (mc21 cy mh mq)]) (va_runS (As := [.int 0, .int 2]) (rest := [.ref (mq 10), .int 0]) ⟨hx, hb, hml, hown, hts⟩ (c_M_yardRow l D cy 0 2 _) (va_cwS 2 hts gX12_loading_X12_yardRow rfl rfl rfl (by decide +kernel) ⟨(Nat.le_of_ble_eq_true rfl), (Nat.le_of_ble_eq_true rfl)⟩) (pre_S hKX hP hD [] rfl (by decide) rfl) rfl rfl hl.1 rfl (lv_room (Nat.le_of_ble_eq_true rfl)) dX12_loading_99 ⟨(Nat.le_of_ble_eq_true rfl), (Nat.le_of_ble_eq_true rfl)⟩) hP hD hS hA [] [0, 1, 2, 3] rfl rfl (by decide) (by decide) (fun u9 H locs _ hP hD hS => ?_)
        have hP : va_P D vwCl [(mh, .inr (12, [.int 0, .int 100, .int 200, .int 5, .int 100, .int 0, .int 0, .int 0, .int 0, .int 0, .int 0, .ref (mq 0), .int 0, .ref (mq 1), .ref (mq 2), .ref (mq 3), .ref (mq 4), .ref (mq 5), .ref (mq 6), .ref (mq 7), .ref (mq 8), .ref (mq 9), .ref (mq 10), .int 0, .ref (mq 11), .ref (mq 12), .ref (mq 13), .int 0, .ref (mq 14), .ref (mq 15), .ref (mq 16), .ref (mq 17), .ref (mq 18), .int 0, .int 0, .int 0, .int 0, .int 0, .int 0, .int 0, .int (-1), .ref (mq 19), .ref (mq 20), .ref (mq 21), .ref (mq 22), .ref (mq 23), .ref (mq 24), .int 0, .int 0, .int 0, .ref (mq 25), .ref (mq 26), .ref (mq 27), .ref (mq 28), .ref (mq 29)])), (mc11 cy mh mq), (mc20 cy mh mq), (mc21 cy mh mq)] H := hP
        have hD : va_D A [(mh, .inr (12, [.int 0, .int 100, .int 200, .int 5, .int 100, .int 0, .int 0, .int 0, .int 0, .int 0, .int 0, .ref (mq 0), .int 0, .ref (mq 1), .ref (mq 2), .ref (mq 3), .ref (mq 4), .ref (mq 5), .ref (mq 6), .ref (mq 7), .ref (mq 8), .ref (mq 9), .ref (mq 10), .int 0, .ref (mq 11), .ref (mq 12), .ref (mq 13), .int 0, .ref (mq 14), .ref (mq 15), .ref (mq 16), .ref (mq 17), .ref (mq 18), .int 0, .int 0, .int 0, .int 0, .int 0, .int 0, .int 0, .int (-1), .ref (mq 19), .ref (mq 20), .ref (mq 21), .ref (mq 22), .ref (mq 23), .ref (mq 24), .int 0, .int 0, .int 0, .ref (mq 25), .ref (mq 26), .ref (mq 27), .ref (mq 28), .ref (mq 29)])), (mc11 cy mh mq), (mc20 cy mh mq), (mc21 cy mh mq)] := hD
        refine lv_cst 6 (by decide) ?_
        refine va_iald hx hb hKX.1 hP 1 0 rfl rfl (vind (by decide)) dX12_loading_102 ?_
        refine lv_cst 0 rfl ?_
        refine lv_icmp_le (tgt := 108) hx hb dX12_loading_103 (by decide) (fun _ => ?_) (fun c9 => absurd (by decide) c9)
        refine lv_aload_n hx hb dX12_loading_108 rfl (lv_at hl 0 rfl) ?_
        refine va_get (D := D) (ci := 12) (v := .ref (mq 19)) (C := RX12) (T := TX12) (N := 55) hx hb hts iw_X12_loading_X12 hown hKX.1 hP 0 rfl rfl 41 (by decide) (hts (.fieldLink RX12 89 "TrainFerryModel" "wanted" "[I") (by decide +kernel)) (fun _ h9 => h9) rfl dX12_loading_109 ?_
        refine lv_iconst (v := 0) hx hb dX12_loading_112 (by decide) ?_
        refine lv_iload_n hx hb dX12_loading_113 rfl (lv_at hl 1 rfl) ?_
        refine va_iast hx hb hKX.1 hP hD hS 2 0 rfl rfl (vind (by decide)) dX12_loading_114 (fun H locs hP hD hS => ?_)
        have hP : va_P D vwCl [(mh, .inr (12, [.int 0, .int 100, .int 200, .int 5, .int 100, .int 0, .int 0, .int 0, .int 0, .int 0, .int 0, .ref (mq 0), .int 0, .ref (mq 1), .ref (mq 2), .ref (mq 3), .ref (mq 4), .ref (mq 5), .ref (mq 6), .ref (mq 7), .ref (mq 8), .ref (mq 9), .ref (mq 10), .int 0, .ref (mq 11), .ref (mq 12), .ref (mq 13), .int 0, .ref (mq 14), .ref (mq 15), .ref (mq 16), .ref (mq 17), .ref (mq 18), .int 0, .int 0, .int 0, .int 0, .int 0, .int 0, .int 0, .int (-1), .ref (mq 19), .ref (mq 20), .ref (mq 21), .ref (mq 22), .ref (mq 23), .ref (mq 24), .int 0, .int 0, .int 0, .ref (mq 25), .ref (mq 26), .ref (mq 27), .ref (mq 28), .ref (mq 29)])), (mc11 cy mh mq), ((mq 19), .inl (cy 0, 3, .inl (upd (fun _ => 0) 0 0))), (mc21 cy mh mq)] H := hP
        have hD : va_D A [(mh, .inr (12, [.int 0, .int 100, .int 200, .int 5, .int 100, .int 0, .int 0, .int 0, .int 0, .int 0, .int 0, .ref (mq 0), .int 0, .ref (mq 1), .ref (mq 2), .ref (mq 3), .ref (mq 4), .ref (mq 5), .ref (mq 6), .ref (mq 7), .ref (mq 8), .ref (mq 9), .ref (mq 10), .int 0, .ref (mq 11), .ref (mq 12), .ref (mq 13), .int 0, .ref (mq 14), .ref (mq 15), .ref (mq 16), .ref (mq 17), .ref (mq 18), .int 0, .int 0, .int 0, .int 0, .int 0, .int 0, .int 0, .int (-1), .ref (mq 19), .ref (mq 20), .ref (mq 21), .ref (mq 22), .ref (mq 23), .ref (mq 24), .int 0, .int 0, .int 0, .ref (mq 25), .ref (mq 26), .ref (mq 27), .ref (mq 28), .ref (mq 29)])), (mc11 cy mh mq), ((mq 19), .inl (cy 0, 3, .inl (upd (fun _ => 0) 0 0))), (mc21 cy mh mq)] := hD
        refine lv_aload_n hx hb dX12_loading_115 rfl (lv_at hl 0 rfl) ?_
        refine va_get (D := D) (ci := 12) (v := .ref (mq 19)) (C := RX12) (T := TX12) (N := 55) hx hb hts iw_X12_loading_X12 hown hKX.1 hP 0 rfl rfl 41 (by decide) (hts (.fieldLink RX12 89 "TrainFerryModel" "wanted" "[I") (by decide +kernel)) (fun _ h9 => h9) rfl dX12_loading_116 ?_
        refine lv_iconst (v := 1) hx hb dX12_loading_119 (by decide) ?_
        refine lv_iload_n hx hb dX12_loading_120 rfl (lv_at hl 2 rfl) ?_
        refine va_iast hx hb hKX.1 hP hD hS 2 0 rfl rfl (vind (by decide)) dX12_loading_121 (fun H locs hP hD hS => ?_)
        have hP : va_P D vwCl [(mh, .inr (12, [.int 0, .int 100, .int 200, .int 5, .int 100, .int 0, .int 0, .int 0, .int 0, .int 0, .int 0, .ref (mq 0), .int 0, .ref (mq 1), .ref (mq 2), .ref (mq 3), .ref (mq 4), .ref (mq 5), .ref (mq 6), .ref (mq 7), .ref (mq 8), .ref (mq 9), .ref (mq 10), .int 0, .ref (mq 11), .ref (mq 12), .ref (mq 13), .int 0, .ref (mq 14), .ref (mq 15), .ref (mq 16), .ref (mq 17), .ref (mq 18), .int 0, .int 0, .int 0, .int 0, .int 0, .int 0, .int 0, .int (-1), .ref (mq 19), .ref (mq 20), .ref (mq 21), .ref (mq 22), .ref (mq 23), .ref (mq 24), .int 0, .int 0, .int 0, .ref (mq 25), .ref (mq 26), .ref (mq 27), .ref (mq 28), .ref (mq 29)])), (mc11 cy mh mq), ((mq 19), .inl (cy 0, 3, .inl (upd (upd (fun _ => 0) 0 0) 1 0))), (mc21 cy mh mq)] H := hP
        have hD : va_D A [(mh, .inr (12, [.int 0, .int 100, .int 200, .int 5, .int 100, .int 0, .int 0, .int 0, .int 0, .int 0, .int 0, .ref (mq 0), .int 0, .ref (mq 1), .ref (mq 2), .ref (mq 3), .ref (mq 4), .ref (mq 5), .ref (mq 6), .ref (mq 7), .ref (mq 8), .ref (mq 9), .ref (mq 10), .int 0, .ref (mq 11), .ref (mq 12), .ref (mq 13), .int 0, .ref (mq 14), .ref (mq 15), .ref (mq 16), .ref (mq 17), .ref (mq 18), .int 0, .int 0, .int 0, .int 0, .int 0, .int 0, .int 0, .int (-1), .ref (mq 19), .ref (mq 20), .ref (mq 21), .ref (mq 22), .ref (mq 23), .ref (mq 24), .int 0, .int 0, .int 0, .ref (mq 25), .ref (mq 26), .ref (mq 27), .ref (mq 28), .ref (mq 29)])), (mc11 cy mh mq), ((mq 19), .inl (cy 0, 3, .inl (upd (upd (fun _ => 0) 0 0) 1 0))), (mc21 cy mh mq)] := hD
        refine lv_aload_n hx hb dX12_loading_122 rfl (lv_at hl 0 rfl) ?_
        refine va_get (D := D) (ci := 12) (v := .ref (mq 19)) (C := RX12) (T := TX12) (N := 55) hx hb hts iw_X12_loading_X12 hown hKX.1 hP 0 rfl rfl 41 (by decide) (hts (.fieldLink RX12 89 "TrainFerryModel" "wanted" "[I") (by decide +kernel)) (fun _ h9 => h9) rfl dX12_loading_123 ?_
        refine lv_iconst (v := 2) hx hb dX12_loading_126 (by decide) ?_
        refine lv_iload_n hx hb dX12_loading_127 rfl (lv_at hl 3 rfl) ?_
        refine va_iast hx hb hKX.1 hP hD hS 2 0 rfl rfl (vind (by decide)) dX12_loading_128 (fun H locs hP hD hS => ?_)
        have hP : va_P D vwCl [(mh, .inr (12, [.int 0, .int 100, .int 200, .int 5, .int 100, .int 0, .int 0, .int 0, .int 0, .int 0, .int 0, .ref (mq 0), .int 0, .ref (mq 1), .ref (mq 2), .ref (mq 3), .ref (mq 4), .ref (mq 5), .ref (mq 6), .ref (mq 7), .ref (mq 8), .ref (mq 9), .ref (mq 10), .int 0, .ref (mq 11), .ref (mq 12), .ref (mq 13), .int 0, .ref (mq 14), .ref (mq 15), .ref (mq 16), .ref (mq 17), .ref (mq 18), .int 0, .int 0, .int 0, .int 0, .int 0, .int 0, .int 0, .int (-1), .ref (mq 19), .ref (mq 20), .ref (mq 21), .ref (mq 22), .ref (mq 23), .ref (mq 24), .int 0, .int 0, .int 0, .ref (mq 25), .ref (mq 26), .ref (mq 27), .ref (mq 28), .ref (mq 29)])), (mc11 cy mh mq), ((mq 19), .inl (cy 0, 3, .inl (upd (upd (upd (fun _ => 0) 0 0) 1 0) 2 0))), (mc21 cy mh mq)] H := hP
        have hD : va_D A [(mh, .inr (12, [.int 0, .int 100, .int 200, .int 5, .int 100, .int 0, .int 0, .int 0, .int 0, .int 0, .int 0, .ref (mq 0), .int 0, .ref (mq 1), .ref (mq 2), .ref (mq 3), .ref (mq 4), .ref (mq 5), .ref (mq 6), .ref (mq 7), .ref (mq 8), .ref (mq 9), .ref (mq 10), .int 0, .ref (mq 11), .ref (mq 12), .ref (mq 13), .int 0, .ref (mq 14), .ref (mq 15), .ref (mq 16), .ref (mq 17), .ref (mq 18), .int 0, .int 0, .int 0, .int 0, .int 0, .int 0, .int 0, .int (-1), .ref (mq 19), .ref (mq 20), .ref (mq 21), .ref (mq 22), .ref (mq 23), .ref (mq 24), .int 0, .int 0, .int 0, .ref (mq 25), .ref (mq 26), .ref (mq 27), .ref (mq 28), .ref (mq 29)])), (mc11 cy mh mq), ((mq 19), .inl (cy 0, 3, .inl (upd (upd (upd (fun _ => 0) 0 0) 1 0) 2 0))), (mc21 cy mh mq)] := hD
        refine lv_iconst (v := 0) hx hb dX12_loading_129 (by decide) ?_
        refine lv_istore (lv' := [(4, .int 0), (0, .ref mh), (1, .int 0), (2, .int 0), (3, .int 0)]) hx hb dX12_loading_130 hl (by decide) rfl (fun ls hl => ?_)
        refine lv_iload hx hb dX12_loading_132 (lv_at hl 0 rfl) ?_
        refine lv_iconst (v := 3) hx hb dX12_loading_134 (by decide) ?_
        refine lv_icmp_ge (tgt := 152) hx hb dX12_loading_135 (by decide) (fun c9 => absurd c9 (by decide)) (fun _ => ?_)
        refine lv_aload_n hx hb dX12_loading_138 rfl (lv_at hl 1 rfl) ?_
        refine va_get (D := D) (ci := 12) (v := .ref (mq 20)) (C := RX12) (T := TX12) (N := 55) hx hb hts iw_X12_loading_X12 hown hKX.1 hP 0 rfl rfl 42 (by decide) (hts (.fieldLink RX12 92 "TrainFerryModel" "taken" "[I") (by decide +kernel)) (fun _ h9 => h9) rfl dX12_loading_139 ?_
        refine lv_iload hx hb dX12_loading_142 (lv_at hl 0 rfl) ?_
        refine lv_iconst (v := 0) hx hb dX12_loading_144 (by decide) ?_
        refine va_iast hx hb hKX.1 hP hD hS 3 0 rfl rfl (vind (by decide)) dX12_loading_145 (fun H locs hP hD hS => ?_)
        have hP : va_P D vwCl [(mh, .inr (12, [.int 0, .int 100, .int 200, .int 5, .int 100, .int 0, .int 0, .int 0, .int 0, .int 0, .int 0, .ref (mq 0), .int 0, .ref (mq 1), .ref (mq 2), .ref (mq 3), .ref (mq 4), .ref (mq 5), .ref (mq 6), .ref (mq 7), .ref (mq 8), .ref (mq 9), .ref (mq 10), .int 0, .ref (mq 11), .ref (mq 12), .ref (mq 13), .int 0, .ref (mq 14), .ref (mq 15), .ref (mq 16), .ref (mq 17), .ref (mq 18), .int 0, .int 0, .int 0, .int 0, .int 0, .int 0, .int 0, .int (-1), .ref (mq 19), .ref (mq 20), .ref (mq 21), .ref (mq 22), .ref (mq 23), .ref (mq 24), .int 0, .int 0, .int 0, .ref (mq 25), .ref (mq 26), .ref (mq 27), .ref (mq 28), .ref (mq 29)])), (mc11 cy mh mq), ((mq 19), .inl (cy 0, 3, .inl (upd (upd (upd (fun _ => 0) 0 0) 1 0) 2 0))), ((mq 20), .inl (cy 0, 3, .inl (upd (fun _ => 0) 0 0)))] H := hP
        have hD : va_D A [(mh, .inr (12, [.int 0, .int 100, .int 200, .int 5, .int 100, .int 0, .int 0, .int 0, .int 0, .int 0, .int 0, .ref (mq 0), .int 0, .ref (mq 1), .ref (mq 2), .ref (mq 3), .ref (mq 4), .ref (mq 5), .ref (mq 6), .ref (mq 7), .ref (mq 8), .ref (mq 9), .ref (mq 10), .int 0, .ref (mq 11), .ref (mq 12), .ref (mq 13), .int 0, .ref (mq 14), .ref (mq 15), .ref (mq 16), .ref (mq 17), .ref (mq 18), .int 0, .int 0, .int 0, .int 0, .int 0, .int 0, .int 0, .int (-1), .ref (mq 19), .ref (mq 20), .ref (mq 21), .ref (mq 22), .ref (mq 23), .ref (mq 24), .int 0, .int 0, .int 0, .ref (mq 25), .ref (mq 26), .ref (mq 27), .ref (mq 28), .ref (mq 29)])), (mc11 cy mh mq), ((mq 19), .inl (cy 0, 3, .inl (upd (upd (upd (fun _ => 0) 0 0) 1 0) 2 0))), ((mq 20), .inl (cy 0, 3, .inl (upd (fun _ => 0) 0 0)))] := hD
        refine lv_iinc (v := 1) (lv' := [(4, .int 1), (0, .ref mh), (1, .int 0), (2, .int 0), (3, .int 0)]) hx hb dX12_loading_146 hl (k := 0) rfl (by decide) (by decide) rfl (fun ls hl => ?_)
        refine lv_goto (tgt := 132) hx hb dX12_loading_149 (by decide) ?_
        refine lv_iload hx hb dX12_loading_132 (lv_at hl 0 rfl) ?_
        refine lv_iconst (v := 3) hx hb dX12_loading_134 (by decide) ?_
        refine lv_icmp_ge (tgt := 152) hx hb dX12_loading_135 (by decide) (fun c9 => absurd c9 (by decide)) (fun _ => ?_)
        refine lv_aload_n hx hb dX12_loading_138 rfl (lv_at hl 1 rfl) ?_
        refine va_get (D := D) (ci := 12) (v := .ref (mq 20)) (C := RX12) (T := TX12) (N := 55) hx hb hts iw_X12_loading_X12 hown hKX.1 hP 0 rfl rfl 42 (by decide) (hts (.fieldLink RX12 92 "TrainFerryModel" "taken" "[I") (by decide +kernel)) (fun _ h9 => h9) rfl dX12_loading_139 ?_
        refine lv_iload hx hb dX12_loading_142 (lv_at hl 0 rfl) ?_
        refine lv_iconst (v := 0) hx hb dX12_loading_144 (by decide) ?_
        refine va_iast hx hb hKX.1 hP hD hS 3 0 rfl rfl (vind (by decide)) dX12_loading_145 (fun H locs hP hD hS => ?_)
        have hP : va_P D vwCl [(mh, .inr (12, [.int 0, .int 100, .int 200, .int 5, .int 100, .int 0, .int 0, .int 0, .int 0, .int 0, .int 0, .ref (mq 0), .int 0, .ref (mq 1), .ref (mq 2), .ref (mq 3), .ref (mq 4), .ref (mq 5), .ref (mq 6), .ref (mq 7), .ref (mq 8), .ref (mq 9), .ref (mq 10), .int 0, .ref (mq 11), .ref (mq 12), .ref (mq 13), .int 0, .ref (mq 14), .ref (mq 15), .ref (mq 16), .ref (mq 17), .ref (mq 18), .int 0, .int 0, .int 0, .int 0, .int 0, .int 0, .int 0, .int (-1), .ref (mq 19), .ref (mq 20), .ref (mq 21), .ref (mq 22), .ref (mq 23), .ref (mq 24), .int 0, .int 0, .int 0, .ref (mq 25), .ref (mq 26), .ref (mq 27), .ref (mq 28), .ref (mq 29)])), (mc11 cy mh mq), ((mq 19), .inl (cy 0, 3, .inl (upd (upd (upd (fun _ => 0) 0 0) 1 0) 2 0))), ((mq 20), .inl (cy 0, 3, .inl (upd (upd (fun _ => 0) 0 0) 1 0)))] H := hP
        have hD : va_D A [(mh, .inr (12, [.int 0, .int 100, .int 200, .int 5, .int 100, .int 0, .int 0, .int 0, .int 0, .int 0, .int 0, .ref (mq 0), .int 0, .ref (mq 1), .ref (mq 2), .ref (mq 3), .ref (mq 4), .ref (mq 5), .ref (mq 6), .ref (mq 7), .ref (mq 8), .ref (mq 9), .ref (mq 10), .int 0, .ref (mq 11), .ref (mq 12), .ref (mq 13), .int 0, .ref (mq 14), .ref (mq 15), .ref (mq 16), .ref (mq 17), .ref (mq 18), .int 0, .int 0, .int 0, .int 0, .int 0, .int 0, .int 0, .int (-1), .ref (mq 19), .ref (mq 20), .ref (mq 21), .ref (mq 22), .ref (mq 23), .ref (mq 24), .int 0, .int 0, .int 0, .ref (mq 25), .ref (mq 26), .ref (mq 27), .ref (mq 28), .ref (mq 29)])), (mc11 cy mh mq), ((mq 19), .inl (cy 0, 3, .inl (upd (upd (upd (fun _ => 0) 0 0) 1 0) 2 0))), ((mq 20), .inl (cy 0, 3, .inl (upd (upd (fun _ => 0) 0 0) 1 0)))] := hD
        refine lv_iinc (v := 2) (lv' := [(4, .int 2), (0, .ref mh), (1, .int 0), (2, .int 0), (3, .int 0)]) hx hb dX12_loading_146 hl (k := 0) rfl (by decide) (by decide) rfl (fun ls hl => ?_)
        refine lv_goto (tgt := 132) hx hb dX12_loading_149 (by decide) ?_
        refine lv_iload hx hb dX12_loading_132 (lv_at hl 0 rfl) ?_
        refine lv_iconst (v := 3) hx hb dX12_loading_134 (by decide) ?_
        refine lv_icmp_ge (tgt := 152) hx hb dX12_loading_135 (by decide) (fun c9 => absurd c9 (by decide)) (fun _ => ?_)
        refine lv_aload_n hx hb dX12_loading_138 rfl (lv_at hl 1 rfl) ?_
        refine va_get (D := D) (ci := 12) (v := .ref (mq 20)) (C := RX12) (T := TX12) (N := 55) hx hb hts iw_X12_loading_X12 hown hKX.1 hP 0 rfl rfl 42 (by decide) (hts (.fieldLink RX12 92 "TrainFerryModel" "taken" "[I") (by decide +kernel)) (fun _ h9 => h9) rfl dX12_loading_139 ?_
        refine lv_iload hx hb dX12_loading_142 (lv_at hl 0 rfl) ?_
        refine lv_iconst (v := 0) hx hb dX12_loading_144 (by decide) ?_
        refine va_iast hx hb hKX.1 hP hD hS 3 0 rfl rfl (vind (by decide)) dX12_loading_145 (fun H locs hP hD hS => ?_)
        have hP : va_P D vwCl [(mh, .inr (12, [.int 0, .int 100, .int 200, .int 5, .int 100, .int 0, .int 0, .int 0, .int 0, .int 0, .int 0, .ref (mq 0), .int 0, .ref (mq 1), .ref (mq 2), .ref (mq 3), .ref (mq 4), .ref (mq 5), .ref (mq 6), .ref (mq 7), .ref (mq 8), .ref (mq 9), .ref (mq 10), .int 0, .ref (mq 11), .ref (mq 12), .ref (mq 13), .int 0, .ref (mq 14), .ref (mq 15), .ref (mq 16), .ref (mq 17), .ref (mq 18), .int 0, .int 0, .int 0, .int 0, .int 0, .int 0, .int 0, .int (-1), .ref (mq 19), .ref (mq 20), .ref (mq 21), .ref (mq 22), .ref (mq 23), .ref (mq 24), .int 0, .int 0, .int 0, .ref (mq 25), .ref (mq 26), .ref (mq 27), .ref (mq 28), .ref (mq 29)])), (mc11 cy mh mq), ((mq 19), .inl (cy 0, 3, .inl (upd (upd (upd (fun _ => 0) 0 0) 1 0) 2 0))), ((mq 20), .inl (cy 0, 3, .inl (upd (upd (upd (fun _ => 0) 0 0) 1 0) 2 0)))] H := hP
        have hD : va_D A [(mh, .inr (12, [.int 0, .int 100, .int 200, .int 5, .int 100, .int 0, .int 0, .int 0, .int 0, .int 0, .int 0, .ref (mq 0), .int 0, .ref (mq 1), .ref (mq 2), .ref (mq 3), .ref (mq 4), .ref (mq 5), .ref (mq 6), .ref (mq 7), .ref (mq 8), .ref (mq 9), .ref (mq 10), .int 0, .ref (mq 11), .ref (mq 12), .ref (mq 13), .int 0, .ref (mq 14), .ref (mq 15), .ref (mq 16), .ref (mq 17), .ref (mq 18), .int 0, .int 0, .int 0, .int 0, .int 0, .int 0, .int 0, .int (-1), .ref (mq 19), .ref (mq 20), .ref (mq 21), .ref (mq 22), .ref (mq 23), .ref (mq 24), .int 0, .int 0, .int 0, .ref (mq 25), .ref (mq 26), .ref (mq 27), .ref (mq 28), .ref (mq 29)])), (mc11 cy mh mq), ((mq 19), .inl (cy 0, 3, .inl (upd (upd (upd (fun _ => 0) 0 0) 1 0) 2 0))), ((mq 20), .inl (cy 0, 3, .inl (upd (upd (upd (fun _ => 0) 0 0) 1 0) 2 0)))] := hD
        refine lv_iinc (v := 3) (lv' := [(4, .int 3), (0, .ref mh), (1, .int 0), (2, .int 0), (3, .int 0)]) hx hb dX12_loading_146 hl (k := 0) rfl (by decide) (by decide) rfl (fun ls hl => ?_)
        refine lv_goto (tgt := 132) hx hb dX12_loading_149 (by decide) ?_
        refine lv_iload hx hb dX12_loading_132 (lv_at hl 0 rfl) ?_
        refine lv_iconst (v := 3) hx hb dX12_loading_134 (by decide) ?_
        refine lv_icmp_ge (tgt := 152) hx hb dX12_loading_135 (by decide) (fun _ => ?_) (fun c9 => absurd (by decide) c9)
        refine lv_aload_n hx hb dX12_loading_152 rfl (lv_at hl 1 rfl) ?_
        refine lv_iconst (v := (-1)) hx hb dX12_loading_153 (by decide) ?_
        refine va_put (D := D) (ci := 12) (v := .int (-1)) (ty := .int) (C := RX12) (T := TX12) (N := 55) hx hb hts iw_X12_loading_X12 tyX12 tyX12_ok nmX12 hown hKX.1 hP hD hS 0 rfl rfl 47 (by decide) (hts (.fieldLink RX12 303 "TrainFerryModel" "bestSteps" "I") (by decide +kernel)) (fun _ h9 => h9) rfl (by decide +kernel) rfl rfl (Nat.le_of_ble_eq_true rfl) dX12_loading_154 (fun H locs hP hD hS => ?_)
        have hP : va_P D vwCl [(mh, .inr (12, [.int 0, .int 100, .int 200, .int 5, .int 100, .int 0, .int 0, .int 0, .int 0, .int 0, .int 0, .ref (mq 0), .int 0, .ref (mq 1), .ref (mq 2), .ref (mq 3), .ref (mq 4), .ref (mq 5), .ref (mq 6), .ref (mq 7), .ref (mq 8), .ref (mq 9), .ref (mq 10), .int 0, .ref (mq 11), .ref (mq 12), .ref (mq 13), .int 0, .ref (mq 14), .ref (mq 15), .ref (mq 16), .ref (mq 17), .ref (mq 18), .int 0, .int 0, .int 0, .int 0, .int 0, .int 0, .int 0, .int (-1), .ref (mq 19), .ref (mq 20), .ref (mq 21), .ref (mq 22), .ref (mq 23), .ref (mq 24), .int (-1), .int 0, .int 0, .ref (mq 25), .ref (mq 26), .ref (mq 27), .ref (mq 28), .ref (mq 29)])), (mc11 cy mh mq), ((mq 19), .inl (cy 0, 3, .inl (upd (upd (upd (fun _ => 0) 0 0) 1 0) 2 0))), ((mq 20), .inl (cy 0, 3, .inl (upd (upd (upd (fun _ => 0) 0 0) 1 0) 2 0)))] H := hP
        have hD : va_D A [(mh, .inr (12, [.int 0, .int 100, .int 200, .int 5, .int 100, .int 0, .int 0, .int 0, .int 0, .int 0, .int 0, .ref (mq 0), .int 0, .ref (mq 1), .ref (mq 2), .ref (mq 3), .ref (mq 4), .ref (mq 5), .ref (mq 6), .ref (mq 7), .ref (mq 8), .ref (mq 9), .ref (mq 10), .int 0, .ref (mq 11), .ref (mq 12), .ref (mq 13), .int 0, .ref (mq 14), .ref (mq 15), .ref (mq 16), .ref (mq 17), .ref (mq 18), .int 0, .int 0, .int 0, .int 0, .int 0, .int 0, .int 0, .int (-1), .ref (mq 19), .ref (mq 20), .ref (mq 21), .ref (mq 22), .ref (mq 23), .ref (mq 24), .int (-1), .int 0, .int 0, .ref (mq 25), .ref (mq 26), .ref (mq 27), .ref (mq 28), .ref (mq 29)])), (mc11 cy mh mq), ((mq 19), .inl (cy 0, 3, .inl (upd (upd (upd (fun _ => 0) 0 0) 1 0) 2 0))), ((mq 20), .inl (cy 0, 3, .inl (upd (upd (upd (fun _ => 0) 0 0) 1 0) 2 0)))] := hD
        refine lv_aload_n hx hb dX12_loading_157 rfl (lv_at hl 1 rfl) ?_
        refine lv_iconst (v := 0) hx hb dX12_loading_158 (by decide) ?_
        refine lv_iload_n hx hb dX12_loading_159 rfl (lv_at hl 2 rfl) ?_
        refine lv_iload_n hx hb dX12_loading_160 rfl (lv_at hl 3 rfl) ?_
        refine lv_iadd hx hb dX12_loading_161 ?_
        refine lv_cst 0 (by decide) ?_
        refine lv_iload_n hx hb dX12_loading_162 rfl (lv_at hl 4 rfl) ?_
        refine lv_iadd hx hb dX12_loading_163 ?_
        refine lv_cst 0 (by decide) ?_
        refine lv_aload_n hx hb dX12_loading_164 rfl (lv_at hl 1 rfl) ?_
        refine cl_i (wr := [((mq 19), .inl (cy 0, 3, .inl (upd (upd (upd (fun _ => 0) 0 0) 1 0) 2 0))), ((mq 20), .inl (cy 0, 3, .inl (upd (upd (upd (fun _ => 0) 0 0) 1 0) 2 0)))]) (va_runV (As := []) (rest := [.int 0, .int 0, .ref mh]) ⟨hx, hb, hml, hown, hts⟩ (c_M_list l D cy mh mq (-1) _) (cwV 0 hts gX12_loading_X12_list rfl rfl rfl (by decide +kernel) ⟨(Nat.le_of_ble_eq_true rfl), (Nat.le_of_ble_eq_true rfl)⟩) (pre_V hKX hP hD (ci := 12) (q0 := 0) rfl rfl [0, 1] rfl (by decide) rfl) rfl rfl hl.1 rfl (lv_room (Nat.le_of_ble_eq_true rfl)) dX12_loading_165 ⟨(Nat.le_of_ble_eq_true rfl), (Nat.le_of_ble_eq_true rfl)⟩) hP hD hS hA [0, 1] [2, 3] rfl rfl (by decide) (by decide) (fun u10 H locs _ hP hD hS => ?_)
        have hP : va_P D vwCl [((mq 19), .inl (cy 0, 3, .inl (upd (upd (upd (fun _ => 0) 0 0) 1 0) 2 0))), ((mq 20), .inl (cy 0, 3, .inl (upd (upd (upd (fun _ => 0) 0 0) 1 0) 2 0))), (mh, .inr (12, [.int 0, .int 100, .int 200, .int 5, .int 100, .int 0, .int 0, .int 0, .int 0, .int 0, .int 0, .ref (mq 0), .int 0, .ref (mq 1), .ref (mq 2), .ref (mq 3), .ref (mq 4), .ref (mq 5), .ref (mq 6), .ref (mq 7), .ref (mq 8), .ref (mq 9), .ref (mq 10), .int 0, .ref (mq 11), .ref (mq 12), .ref (mq 13), .int 0, .ref (mq 14), .ref (mq 15), .ref (mq 16), .ref (mq 17), .ref (mq 18), .int 0, .int 0, .int 0, .int 0, .int 0, .int 0, .int 0, .int (-1), .ref (mq 19), .ref (mq 20), .ref (mq 21), .ref (mq 22), .ref (mq 23), .ref (mq 24), .int (-1), .int 0, .int 0, .ref (mq 25), .ref (mq 26), .ref (mq 27), .ref (mq 28), .ref (mq 29)])), (mc11 cy mh mq)] H := hP
        have hD : va_D A [((mq 19), .inl (cy 0, 3, .inl (upd (upd (upd (fun _ => 0) 0 0) 1 0) 2 0))), ((mq 20), .inl (cy 0, 3, .inl (upd (upd (upd (fun _ => 0) 0 0) 1 0) 2 0))), (mh, .inr (12, [.int 0, .int 100, .int 200, .int 5, .int 100, .int 0, .int 0, .int 0, .int 0, .int 0, .int 0, .ref (mq 0), .int 0, .ref (mq 1), .ref (mq 2), .ref (mq 3), .ref (mq 4), .ref (mq 5), .ref (mq 6), .ref (mq 7), .ref (mq 8), .ref (mq 9), .ref (mq 10), .int 0, .ref (mq 11), .ref (mq 12), .ref (mq 13), .int 0, .ref (mq 14), .ref (mq 15), .ref (mq 16), .ref (mq 17), .ref (mq 18), .int 0, .int 0, .int 0, .int 0, .int 0, .int 0, .int 0, .int (-1), .ref (mq 19), .ref (mq 20), .ref (mq 21), .ref (mq 22), .ref (mq 23), .ref (mq 24), .int (-1), .int 0, .int 0, .ref (mq 25), .ref (mq 26), .ref (mq 27), .ref (mq 28), .ref (mq 29)])), (mc11 cy mh mq)] := hD
        refine lv_iconst (v := 0) hx hb dX12_loading_168 (by decide) ?_
        refine cl_v (wr := [((mq 19), .inl (cy 0, 3, .inl (upd (upd (upd (fun _ => 0) 0 0) 1 0) 2 0))), ((mq 20), .inl (cy 0, 3, .inl (upd (upd (upd (fun _ => 0) 0 0) 1 0) 2 0))), (mc11 cy mh mq)]) (va_runV (As := [.int 0, .int 0, .int 0, .int 0]) (rest := []) ⟨hx, hb, hml, hown, hts⟩ (c_tries l D cy mh mq _) (cwV 4 hts gX12_loading_X12_tries rfl rfl rfl (by decide +kernel) ⟨(Nat.le_of_ble_eq_true rfl), (Nat.le_of_ble_eq_true rfl)⟩) (pre_V hKX hP hD (ci := 12) (q0 := 2) rfl rfl [2] rfl (by decide) rfl) rfl rfl hl.1 rfl (lv_room (Nat.le_of_ble_eq_true rfl)) dX12_loading_169 ⟨(Nat.le_of_ble_eq_true rfl), (Nat.le_of_ble_eq_true rfl)⟩) hP hD hS hA [2] [0, 1, 3] rfl rfl (by decide) (by decide) (fun u11 H locs _ hP hD hS => ?_)
        have hP : va_P D vwCl [((mq 19), .inl (cy 0, 3, .inl (upd (upd (upd (fun _ => 0) 0 0) 1 0) 2 0))), ((mq 20), .inl (cy 0, 3, .inl (upd (upd (upd (fun _ => 0) 0 0) 1 0) 2 0))), (mc11 cy mh mq), (mh, .inr (12, [.int 0, .int 100, .int 200, .int 5, .int 100, .int 0, .int 0, .int 0, .int 0, .int 0, .int 0, .ref (mq 0), .int 0, .ref (mq 1), .ref (mq 2), .ref (mq 3), .ref (mq 4), .ref (mq 5), .ref (mq 6), .ref (mq 7), .ref (mq 8), .ref (mq 9), .ref (mq 10), .int 0, .ref (mq 11), .ref (mq 12), .ref (mq 13), .int 0, .ref (mq 14), .ref (mq 15), .ref (mq 16), .ref (mq 17), .ref (mq 18), .int 0, .int 0, .int 0, .int 0, .int 0, .int 0, .int 0, .int (-1), .ref (mq 19), .ref (mq 20), .ref (mq 21), .ref (mq 22), .ref (mq 23), .ref (mq 24), .int 0, .int 0, .int 0, .ref (mq 25), .ref (mq 26), .ref (mq 27), .ref (mq 28), .ref (mq 29)]))] H := hP
        have hD : va_D A [((mq 19), .inl (cy 0, 3, .inl (upd (upd (upd (fun _ => 0) 0 0) 1 0) 2 0))), ((mq 20), .inl (cy 0, 3, .inl (upd (upd (upd (fun _ => 0) 0 0) 1 0) 2 0))), (mc11 cy mh mq), (mh, .inr (12, [.int 0, .int 100, .int 200, .int 5, .int 100, .int 0, .int 0, .int 0, .int 0, .int 0, .int 0, .ref (mq 0), .int 0, .ref (mq 1), .ref (mq 2), .ref (mq 3), .ref (mq 4), .ref (mq 5), .ref (mq 6), .ref (mq 7), .ref (mq 8), .ref (mq 9), .ref (mq 10), .int 0, .ref (mq 11), .ref (mq 12), .ref (mq 13), .int 0, .ref (mq 14), .ref (mq 15), .ref (mq 16), .ref (mq 17), .ref (mq 18), .int 0, .int 0, .int 0, .int 0, .int 0, .int 0, .int 0, .int (-1), .ref (mq 19), .ref (mq 20), .ref (mq 21), .ref (mq 22), .ref (mq 23), .ref (mq 24), .int 0, .int 0, .int 0, .ref (mq 25), .ref (mq 26), .ref (mq 27), .ref (mq 28), .ref (mq 29)]))] := hD
        refine lv_aload_n hx hb dX12_loading_172 rfl (lv_at hl 1 rfl) ?_
        refine va_get (D := D) (ci := 12) (v := .int 0) (C := RX12) (T := TX12) (N := 55) hx hb hts iw_X12_loading_X12 hown hKX.1 hP 3 rfl rfl 47 (by decide) (hts (.fieldLink RX12 303 "TrainFerryModel" "bestSteps" "I") (by decide +kernel)) (fun _ h9 => h9) rfl dX12_loading_173 ?_
        refine lv_iconst (v := (-1)) hx hb dX12_loading_176 (by decide) ?_
        refine lv_icmp_ne (tgt := 182) hx hb dX12_loading_177 (by decide) (fun _ => ?_) (fun c9 => absurd c9 (by decide))
        refine lv_aload_n hx hb dX12_loading_182 rfl (lv_at hl 1 rfl) ?_
        refine lv_aload_n hx hb dX12_loading_183 rfl (lv_at hl 1 rfl) ?_
        refine va_get (D := D) (ci := 12) (v := .int 0) (C := RX12) (T := TX12) (N := 55) hx hb hts iw_X12_loading_X12 hown hKX.1 hP 3 rfl rfl 47 (by decide) (hts (.fieldLink RX12 303 "TrainFerryModel" "bestSteps" "I") (by decide +kernel)) (fun _ h9 => h9) rfl dX12_loading_184 ?_
        refine va_put (D := D) (ci := 12) (v := .int 0) (ty := .int) (C := RX12) (T := TX12) (N := 55) hx hb hts iw_X12_loading_X12 tyX12 tyX12_ok nmX12 hown hKX.1 hP hD hS 3 rfl rfl 49 (by decide) (hts (.fieldLink RX12 315 "TrainFerryModel" "steps" "I") (by decide +kernel)) (fun _ h9 => h9) rfl (by decide +kernel) rfl rfl (Nat.le_of_ble_eq_true rfl) dX12_loading_187 (fun H locs hP hD hS => ?_)
        have hP : va_P D vwCl [((mq 19), .inl (cy 0, 3, .inl (upd (upd (upd (fun _ => 0) 0 0) 1 0) 2 0))), ((mq 20), .inl (cy 0, 3, .inl (upd (upd (upd (fun _ => 0) 0 0) 1 0) 2 0))), (mc11 cy mh mq), (mh, .inr (12, [.int 0, .int 100, .int 200, .int 5, .int 100, .int 0, .int 0, .int 0, .int 0, .int 0, .int 0, .ref (mq 0), .int 0, .ref (mq 1), .ref (mq 2), .ref (mq 3), .ref (mq 4), .ref (mq 5), .ref (mq 6), .ref (mq 7), .ref (mq 8), .ref (mq 9), .ref (mq 10), .int 0, .ref (mq 11), .ref (mq 12), .ref (mq 13), .int 0, .ref (mq 14), .ref (mq 15), .ref (mq 16), .ref (mq 17), .ref (mq 18), .int 0, .int 0, .int 0, .int 0, .int 0, .int 0, .int 0, .int (-1), .ref (mq 19), .ref (mq 20), .ref (mq 21), .ref (mq 22), .ref (mq 23), .ref (mq 24), .int 0, .int 0, .int 0, .ref (mq 25), .ref (mq 26), .ref (mq 27), .ref (mq 28), .ref (mq 29)]))] H := hP
        have hD : va_D A [((mq 19), .inl (cy 0, 3, .inl (upd (upd (upd (fun _ => 0) 0 0) 1 0) 2 0))), ((mq 20), .inl (cy 0, 3, .inl (upd (upd (upd (fun _ => 0) 0 0) 1 0) 2 0))), (mc11 cy mh mq), (mh, .inr (12, [.int 0, .int 100, .int 200, .int 5, .int 100, .int 0, .int 0, .int 0, .int 0, .int 0, .int 0, .ref (mq 0), .int 0, .ref (mq 1), .ref (mq 2), .ref (mq 3), .ref (mq 4), .ref (mq 5), .ref (mq 6), .ref (mq 7), .ref (mq 8), .ref (mq 9), .ref (mq 10), .int 0, .ref (mq 11), .ref (mq 12), .ref (mq 13), .int 0, .ref (mq 14), .ref (mq 15), .ref (mq 16), .ref (mq 17), .ref (mq 18), .int 0, .int 0, .int 0, .int 0, .int 0, .int 0, .int 0, .int (-1), .ref (mq 19), .ref (mq 20), .ref (mq 21), .ref (mq 22), .ref (mq 23), .ref (mq 24), .int 0, .int 0, .int 0, .ref (mq 25), .ref (mq 26), .ref (mq 27), .ref (mq 28), .ref (mq 29)]))] := hD
        refine lv_iconst (v := 0) hx hb dX12_loading_190 (by decide) ?_
        refine lv_istore (lv' := [(4, .int 0), (0, .ref mh), (1, .int 0), (2, .int 0), (3, .int 0)]) hx hb dX12_loading_191 hl (by decide) rfl (fun ls hl => ?_)
        refine lv_iload hx hb dX12_loading_193 (lv_at hl 0 rfl) ?_
        refine lv_aload_n hx hb dX12_loading_195 rfl (lv_at hl 1 rfl) ?_
        refine va_get (D := D) (ci := 12) (v := .int 0) (C := RX12) (T := TX12) (N := 55) hx hb hts iw_X12_loading_X12 hown hKX.1 hP 3 rfl rfl 49 (by decide) (hts (.fieldLink RX12 315 "TrainFerryModel" "steps" "I") (by decide +kernel)) (fun _ h9 => h9) rfl dX12_loading_196 ?_
        refine lv_icmp_ge (tgt := 236) hx hb dX12_loading_199 (by decide) (fun _ => ?_) (fun c9 => absurd (by decide) c9)
        refine lv_aload_n hx hb dX12_loading_236 rfl (lv_at hl 1 rfl) ?_
        refine va_get (D := D) (ci := 12) (v := .int 0) (C := RX12) (T := TX12) (N := 55) hx hb hts iw_X12_loading_X12 hown hKX.1 hP 3 rfl rfl 48 (by decide) (hts (.fieldLink RX12 300 "TrainFerryModel" "bestWorst" "I") (by decide +kernel)) (fun _ h9 => h9) rfl dX12_loading_237 ?_
        exact en_i hx hb hr hlocks () (by simp [fLoad, wic1, wic2, wic3, wic4, wic5, wic6]) trivial (hP.sub [] rfl) (hD.sub [] (by decide) rfl) hS (Nat.le_of_ble_eq_true rfl) (Nat.le_of_ble_eq_true rfl) dX12_loading_240
      · refine lv_aload_n hx hb dX12_loading_0 rfl (lv_at hl 0 rfl) ?_
        refine lv_iconst (v := 0) hx hb dX12_loading_1 (by decide) ?_
        refine va_put (D := D) (ci := 12) (v := .int 0) (ty := .int) (C := RX12) (T := TX12) (N := 55) hx hb hts iw_X12_loading_X12 tyX12 tyX12_ok nmX12 hown hKX.1 hP hD hS 0 rfl rfl 0 (by decide) (hts (.fieldLink RX12 1 "TrainFerryModel" "thrown" "I") (by decide +kernel)) (fun _ h9 => h9) rfl (by decide +kernel) rfl rfl (Nat.le_of_ble_eq_true rfl) dX12_loading_2 (fun H locs hP hD hS => ?_)
        have hP : va_P D vwCl [(mh, .inr (12, [.int 0, .int 100, .int 200, .int 5, .int 100, .int 0, .int 0, .int 0, .int 0, .int 0, .int 0, .ref (mq 0), .int 0, .ref (mq 1), .ref (mq 2), .ref (mq 3), .ref (mq 4), .ref (mq 5), .ref (mq 6), .ref (mq 7), .ref (mq 8), .ref (mq 9), .ref (mq 10), .int 0, .ref (mq 11), .ref (mq 12), .ref (mq 13), .int 0, .ref (mq 14), .ref (mq 15), .ref (mq 16), .ref (mq 17), .ref (mq 18), .int 0, .int 0, .int 0, .int 0, .int 0, .int 0, .int 0, .int (-1), .ref (mq 19), .ref (mq 20), .ref (mq 21), .ref (mq 22), .ref (mq 23), .ref (mq 24), .int 0, .int 0, .int 0, .ref (mq 25), .ref (mq 26), .ref (mq 27), .ref (mq 28), .ref (mq 29)])), (mc11 cy mh mq), (mc20 cy mh mq), (mc21 cy mh mq)] H := hP
        have hD : va_D A [(mh, .inr (12, [.int 0, .int 100, .int 200, .int 5, .int 100, .int 0, .int 0, .int 0, .int 0, .int 0, .int 0, .ref (mq 0), .int 0, .ref (mq 1), .ref (mq 2), .ref (mq 3), .ref (mq 4), .ref (mq 5), .ref (mq 6), .ref (mq 7), .ref (mq 8), .ref (mq 9), .ref (mq 10), .int 0, .ref (mq 11), .ref (mq 12), .ref (mq 13), .int 0, .ref (mq 14), .ref (mq 15), .ref (mq 16), .ref (mq 17), .ref (mq 18), .int 0, .int 0, .int 0, .int 0, .int 0, .int 0, .int 0, .int (-1), .ref (mq 19), .ref (mq 20), .ref (mq 21), .ref (mq 22), .ref (mq 23), .ref (mq 24), .int 0, .int 0, .int 0, .ref (mq 25), .ref (mq 26), .ref (mq 27), .ref (mq 28), .ref (mq 29)])), (mc11 cy mh mq), (mc20 cy mh mq), (mc21 cy mh mq)] := hD
        refine lv_iload_n hx hb dX12_loading_5 rfl (lv_at hl 1 rfl) ?_
        refine lv_iconst (v := 0) hx hb dX12_loading_6 (by decide) ?_
        refine lv_bipush (v := 6) hx hb dX12_loading_7 (by decide) ?_
        refine cl_i (wr := [(mh, .inr (12, [.int 0, .int 100, .int 200, .int 5, .int 100, .int 0, .int 0, .int 0, .int 0, .int 0, .int 0, .ref (mq 0), .int 0, .ref (mq 1), .ref (mq 2), .ref (mq 3), .ref (mq 4), .ref (mq 5), .ref (mq 6), .ref (mq 7), .ref (mq 8), .ref (mq 9), .ref (mq 10), .int 0, .ref (mq 11), .ref (mq 12), .ref (mq 13), .int 0, .ref (mq 14), .ref (mq 15), .ref (mq 16), .ref (mq 17), .ref (mq 18), .int 0, .int 0, .int 0, .int 0, .int 0, .int 0, .int 0, .int (-1), .ref (mq 19), .ref (mq 20), .ref (mq 21), .ref (mq 22), .ref (mq 23), .ref (mq 24), .int 0, .int 0, .int 0, .ref (mq 25), .ref (mq 26), .ref (mq 27), .ref (mq 28), .ref (mq 29)])), (mc11 cy mh mq), (mc20 cy mh mq), (mc21 cy mh mq)]) (va_runS (As := [.int 0, .int 0, .int 6]) (rest := []) ⟨hx, hb, hml, hown, hts⟩ (c_within l D cy 0 0 6 _) (va_cwS 3 hts gX12_loading_X12_within rfl rfl rfl (by decide +kernel) ⟨(Nat.le_of_ble_eq_true rfl), (Nat.le_of_ble_eq_true rfl)⟩) (pre_S hKX hP hD [] rfl (by decide) rfl) rfl rfl hl.1 rfl (lv_room (Nat.le_of_ble_eq_true rfl)) dX12_loading_9 ⟨(Nat.le_of_ble_eq_true rfl), (Nat.le_of_ble_eq_true rfl)⟩) hP hD hS hA [] [0, 1, 2, 3] rfl rfl (by decide) (by decide) (fun u12 H locs _ hP hD hS => ?_)
        have hP : va_P D vwCl [(mh, .inr (12, [.int 0, .int 100, .int 200, .int 5, .int 100, .int 0, .int 0, .int 0, .int 0, .int 0, .int 0, .ref (mq 0), .int 0, .ref (mq 1), .ref (mq 2), .ref (mq 3), .ref (mq 4), .ref (mq 5), .ref (mq 6), .ref (mq 7), .ref (mq 8), .ref (mq 9), .ref (mq 10), .int 0, .ref (mq 11), .ref (mq 12), .ref (mq 13), .int 0, .ref (mq 14), .ref (mq 15), .ref (mq 16), .ref (mq 17), .ref (mq 18), .int 0, .int 0, .int 0, .int 0, .int 0, .int 0, .int 0, .int (-1), .ref (mq 19), .ref (mq 20), .ref (mq 21), .ref (mq 22), .ref (mq 23), .ref (mq 24), .int 0, .int 0, .int 0, .ref (mq 25), .ref (mq 26), .ref (mq 27), .ref (mq 28), .ref (mq 29)])), (mc11 cy mh mq), (mc20 cy mh mq), (mc21 cy mh mq)] H := hP
        have hD : va_D A [(mh, .inr (12, [.int 0, .int 100, .int 200, .int 5, .int 100, .int 0, .int 0, .int 0, .int 0, .int 0, .int 0, .ref (mq 0), .int 0, .ref (mq 1), .ref (mq 2), .ref (mq 3), .ref (mq 4), .ref (mq 5), .ref (mq 6), .ref (mq 7), .ref (mq 8), .ref (mq 9), .ref (mq 10), .int 0, .ref (mq 11), .ref (mq 12), .ref (mq 13), .int 0, .ref (mq 14), .ref (mq 15), .ref (mq 16), .ref (mq 17), .ref (mq 18), .int 0, .int 0, .int 0, .int 0, .int 0, .int 0, .int 0, .int (-1), .ref (mq 19), .ref (mq 20), .ref (mq 21), .ref (mq 22), .ref (mq 23), .ref (mq 24), .int 0, .int 0, .int 0, .ref (mq 25), .ref (mq 26), .ref (mq 27), .ref (mq 28), .ref (mq 29)])), (mc11 cy mh mq), (mc20 cy mh mq), (mc21 cy mh mq)] := hD
        refine lv_cst 1 (by decide) ?_
        refine lv_if_eq (tgt := 53) hx hb dX12_loading_12 (by decide) (fun c9 => absurd c9 (by decide)) (fun _ => ?_)
        refine lv_iload_n hx hb dX12_loading_15 rfl (lv_at hl 2 rfl) ?_
        refine lv_iconst (v := 0) hx hb dX12_loading_16 (by decide) ?_
        refine lv_bipush (v := 6) hx hb dX12_loading_17 (by decide) ?_
        refine cl_i (wr := [(mh, .inr (12, [.int 0, .int 100, .int 200, .int 5, .int 100, .int 0, .int 0, .int 0, .int 0, .int 0, .int 0, .ref (mq 0), .int 0, .ref (mq 1), .ref (mq 2), .ref (mq 3), .ref (mq 4), .ref (mq 5), .ref (mq 6), .ref (mq 7), .ref (mq 8), .ref (mq 9), .ref (mq 10), .int 0, .ref (mq 11), .ref (mq 12), .ref (mq 13), .int 0, .ref (mq 14), .ref (mq 15), .ref (mq 16), .ref (mq 17), .ref (mq 18), .int 0, .int 0, .int 0, .int 0, .int 0, .int 0, .int 0, .int (-1), .ref (mq 19), .ref (mq 20), .ref (mq 21), .ref (mq 22), .ref (mq 23), .ref (mq 24), .int 0, .int 0, .int 0, .ref (mq 25), .ref (mq 26), .ref (mq 27), .ref (mq 28), .ref (mq 29)])), (mc11 cy mh mq), (mc20 cy mh mq), (mc21 cy mh mq)]) (va_runS (As := [.int 0, .int 0, .int 6]) (rest := []) ⟨hx, hb, hml, hown, hts⟩ (c_within l D cy 0 0 6 _) (va_cwS 3 hts gX12_loading_X12_within rfl rfl rfl (by decide +kernel) ⟨(Nat.le_of_ble_eq_true rfl), (Nat.le_of_ble_eq_true rfl)⟩) (pre_S hKX hP hD [] rfl (by decide) rfl) rfl rfl hl.1 rfl (lv_room (Nat.le_of_ble_eq_true rfl)) dX12_loading_19 ⟨(Nat.le_of_ble_eq_true rfl), (Nat.le_of_ble_eq_true rfl)⟩) hP hD hS hA [] [0, 1, 2, 3] rfl rfl (by decide) (by decide) (fun u13 H locs _ hP hD hS => ?_)
        have hP : va_P D vwCl [(mh, .inr (12, [.int 0, .int 100, .int 200, .int 5, .int 100, .int 0, .int 0, .int 0, .int 0, .int 0, .int 0, .ref (mq 0), .int 0, .ref (mq 1), .ref (mq 2), .ref (mq 3), .ref (mq 4), .ref (mq 5), .ref (mq 6), .ref (mq 7), .ref (mq 8), .ref (mq 9), .ref (mq 10), .int 0, .ref (mq 11), .ref (mq 12), .ref (mq 13), .int 0, .ref (mq 14), .ref (mq 15), .ref (mq 16), .ref (mq 17), .ref (mq 18), .int 0, .int 0, .int 0, .int 0, .int 0, .int 0, .int 0, .int (-1), .ref (mq 19), .ref (mq 20), .ref (mq 21), .ref (mq 22), .ref (mq 23), .ref (mq 24), .int 0, .int 0, .int 0, .ref (mq 25), .ref (mq 26), .ref (mq 27), .ref (mq 28), .ref (mq 29)])), (mc11 cy mh mq), (mc20 cy mh mq), (mc21 cy mh mq)] H := hP
        have hD : va_D A [(mh, .inr (12, [.int 0, .int 100, .int 200, .int 5, .int 100, .int 0, .int 0, .int 0, .int 0, .int 0, .int 0, .ref (mq 0), .int 0, .ref (mq 1), .ref (mq 2), .ref (mq 3), .ref (mq 4), .ref (mq 5), .ref (mq 6), .ref (mq 7), .ref (mq 8), .ref (mq 9), .ref (mq 10), .int 0, .ref (mq 11), .ref (mq 12), .ref (mq 13), .int 0, .ref (mq 14), .ref (mq 15), .ref (mq 16), .ref (mq 17), .ref (mq 18), .int 0, .int 0, .int 0, .int 0, .int 0, .int 0, .int 0, .int (-1), .ref (mq 19), .ref (mq 20), .ref (mq 21), .ref (mq 22), .ref (mq 23), .ref (mq 24), .int 0, .int 0, .int 0, .ref (mq 25), .ref (mq 26), .ref (mq 27), .ref (mq 28), .ref (mq 29)])), (mc11 cy mh mq), (mc20 cy mh mq), (mc21 cy mh mq)] := hD
        refine lv_cst 1 (by decide) ?_
        refine lv_if_eq (tgt := 53) hx hb dX12_loading_22 (by decide) (fun c9 => absurd c9 (by decide)) (fun _ => ?_)
        refine lv_iload_n hx hb dX12_loading_25 rfl (lv_at hl 3 rfl) ?_
        refine lv_iconst (v := 0) hx hb dX12_loading_26 (by decide) ?_
        refine lv_bipush (v := 6) hx hb dX12_loading_27 (by decide) ?_
        refine cl_i (wr := [(mh, .inr (12, [.int 0, .int 100, .int 200, .int 5, .int 100, .int 0, .int 0, .int 0, .int 0, .int 0, .int 0, .ref (mq 0), .int 0, .ref (mq 1), .ref (mq 2), .ref (mq 3), .ref (mq 4), .ref (mq 5), .ref (mq 6), .ref (mq 7), .ref (mq 8), .ref (mq 9), .ref (mq 10), .int 0, .ref (mq 11), .ref (mq 12), .ref (mq 13), .int 0, .ref (mq 14), .ref (mq 15), .ref (mq 16), .ref (mq 17), .ref (mq 18), .int 0, .int 0, .int 0, .int 0, .int 0, .int 0, .int 0, .int (-1), .ref (mq 19), .ref (mq 20), .ref (mq 21), .ref (mq 22), .ref (mq 23), .ref (mq 24), .int 0, .int 0, .int 0, .ref (mq 25), .ref (mq 26), .ref (mq 27), .ref (mq 28), .ref (mq 29)])), (mc11 cy mh mq), (mc20 cy mh mq), (mc21 cy mh mq)]) (va_runS (As := [.int xc, .int 0, .int 6]) (rest := []) ⟨hx, hb, hml, hown, hts⟩ (c_within l D cy xc 0 6 _) (va_cwS 3 hts gX12_loading_X12_within rfl rfl rfl (by decide +kernel) ⟨(Nat.le_of_ble_eq_true rfl), (Nat.le_of_ble_eq_true rfl)⟩) (pre_S hKX hP hD [] rfl (by decide) rfl) rfl rfl hl.1 rfl (lv_room (Nat.le_of_ble_eq_true rfl)) dX12_loading_29 ⟨(Nat.le_of_ble_eq_true rfl), (Nat.le_of_ble_eq_true rfl)⟩) hP hD hS hA [] [0, 1, 2, 3] rfl rfl (by decide) (by decide) (fun u14 H locs _ hP hD hS => ?_)
        have hP : va_P D vwCl [(mh, .inr (12, [.int 0, .int 100, .int 200, .int 5, .int 100, .int 0, .int 0, .int 0, .int 0, .int 0, .int 0, .ref (mq 0), .int 0, .ref (mq 1), .ref (mq 2), .ref (mq 3), .ref (mq 4), .ref (mq 5), .ref (mq 6), .ref (mq 7), .ref (mq 8), .ref (mq 9), .ref (mq 10), .int 0, .ref (mq 11), .ref (mq 12), .ref (mq 13), .int 0, .ref (mq 14), .ref (mq 15), .ref (mq 16), .ref (mq 17), .ref (mq 18), .int 0, .int 0, .int 0, .int 0, .int 0, .int 0, .int 0, .int (-1), .ref (mq 19), .ref (mq 20), .ref (mq 21), .ref (mq 22), .ref (mq 23), .ref (mq 24), .int 0, .int 0, .int 0, .ref (mq 25), .ref (mq 26), .ref (mq 27), .ref (mq 28), .ref (mq 29)])), (mc11 cy mh mq), (mc20 cy mh mq), (mc21 cy mh mq)] H := hP
        have hD : va_D A [(mh, .inr (12, [.int 0, .int 100, .int 200, .int 5, .int 100, .int 0, .int 0, .int 0, .int 0, .int 0, .int 0, .ref (mq 0), .int 0, .ref (mq 1), .ref (mq 2), .ref (mq 3), .ref (mq 4), .ref (mq 5), .ref (mq 6), .ref (mq 7), .ref (mq 8), .ref (mq 9), .ref (mq 10), .int 0, .ref (mq 11), .ref (mq 12), .ref (mq 13), .int 0, .ref (mq 14), .ref (mq 15), .ref (mq 16), .ref (mq 17), .ref (mq 18), .int 0, .int 0, .int 0, .int 0, .int 0, .int 0, .int 0, .int (-1), .ref (mq 19), .ref (mq 20), .ref (mq 21), .ref (mq 22), .ref (mq 23), .ref (mq 24), .int 0, .int 0, .int 0, .ref (mq 25), .ref (mq 26), .ref (mq 27), .ref (mq 28), .ref (mq 29)])), (mc11 cy mh mq), (mc20 cy mh mq), (mc21 cy mh mq)] := hD
        refine lv_if_eq (tgt := 53) hx hb dX12_loading_32 (by decide) (fun c15 => ?_) (fun c15 => ?_)
        · refine lv_iconst (v := (-1)) hx hb dX12_loading_53 (by decide) ?_
          exact en_i hx hb hr hlocks () (by simp [fLoad, wic1, wic2, wic3, wic4, wic5, wic6, o3, c15]) trivial (hP.sub [] rfl) (hD.sub [] (by decide) rfl) hS (Nat.le_of_ble_eq_true rfl) (Nat.le_of_ble_eq_true rfl) dX12_loading_54
        · refine lv_iload_n hx hb dX12_loading_35 rfl (lv_at hl 1 rfl) ?_
          refine lv_iload_n hx hb dX12_loading_36 rfl (lv_at hl 2 rfl) ?_
          refine lv_iadd hx hb dX12_loading_37 ?_
          refine lv_cst 0 (by decide) ?_
          refine lv_iload_n hx hb dX12_loading_38 rfl (lv_at hl 3 rfl) ?_
          refine lv_iadd hx hb dX12_loading_39 ?_
          refine lv_bipush (v := 6) hx hb dX12_loading_40 (by decide) ?_
          refine lv_icmp_gt (tgt := 53) hx hb dX12_loading_42 (by decide) (fun c16 => ?_) (fun c16 => ?_)
          · refine lv_iconst (v := (-1)) hx hb dX12_loading_53 (by decide) ?_
            exact en_i hx hb hr hlocks () (by simp [fLoad, wic1, wic2, wic3, wic4, wic5, wic6, o3, c15, c16]) trivial (hP.sub [] rfl) (hD.sub [] (by decide) rfl) hS (Nat.le_of_ble_eq_true rfl) (Nat.le_of_ble_eq_true rfl) dX12_loading_54
          · refine lv_aload_n hx hb dX12_loading_45 rfl (lv_at hl 0 rfl) ?_
            refine va_get (D := D) (ci := 12) (v := .int 0) (C := RX12) (T := TX12) (N := 55) hx hb hts iw_X12_loading_X12 hown hKX.1 hP 0 rfl rfl 7 (by decide) (hts (.fieldLink RX12 161 "TrainFerryModel" "shore" "I") (by decide +kernel)) (fun _ h9 => h9) rfl dX12_loading_46 ?_
            refine lv_iconst (v := 2) hx hb dX12_loading_49 (by decide) ?_
            refine lv_icmp_ne (tgt := 55) hx hb dX12_loading_50 (by decide) (fun _ => ?_) (fun c9 => absurd c9 (by decide))
            refine lv_iload_n hx hb dX12_loading_55 rfl (lv_at hl 1 rfl) ?_
            refine lv_aload_n hx hb dX12_loading_56 rfl (lv_at hl 0 rfl) ?_
            refine va_get (D := D) (ci := 12) (v := .ref (mq 10)) (C := RX12) (T := TX12) (N := 55) hx hb hts iw_X12_loading_X12 hown hKX.1 hP 0 rfl rfl 22 (by decide) (hts (.fieldLink RX12 58 "TrainFerryModel" "many" "[I") (by decide +kernel)) (fun _ h9 => h9) rfl dX12_loading_57 ?_
            refine lv_aload_n hx hb dX12_loading_60 rfl (lv_at hl 0 rfl) ?_
            refine va_get (D := D) (ci := 12) (v := .int 0) (C := RX12) (T := TX12) (N := 55) hx hb hts iw_X12_loading_X12 hown hKX.1 hP 0 rfl rfl 7 (by decide) (hts (.fieldLink RX12 161 "TrainFerryModel" "shore" "I") (by decide +kernel)) (fun _ h9 => h9) rfl dX12_loading_61 ?_
            refine lv_iconst (v := 0) hx hb dX12_loading_64 (by decide) ?_
            refine cl_i (wr := [(mh, .inr (12, [.int 0, .int 100, .int 200, .int 5, .int 100, .int 0, .int 0, .int 0, .int 0, .int 0, .int 0, .ref (mq 0), .int 0, .ref (mq 1), .ref (mq 2), .ref (mq 3), .ref (mq 4), .ref (mq 5), .ref (mq 6), .ref (mq 7), .ref (mq 8), .ref (mq 9), .ref (mq 10), .int 0, .ref (mq 11), .ref (mq 12), .ref (mq 13), .int 0, .ref (mq 14), .ref (mq 15), .ref (mq 16), .ref (mq 17), .ref (mq 18), .int 0, .int 0, .int 0, .int 0, .int 0, .int 0, .int 0, .int (-1), .ref (mq 19), .ref (mq 20), .ref (mq 21), .ref (mq 22), .ref (mq 23), .ref (mq 24), .int 0, .int 0, .int 0, .ref (mq 25), .ref (mq 26), .ref (mq 27), .ref (mq 28), .ref (mq 29)])), (mc11 cy mh mq), (mc20 cy mh mq), (mc21 cy mh mq)]) (va_runS (As := [.int 0, .int 0]) (rest := [.ref (mq 10), .int 0]) ⟨hx, hb, hml, hown, hts⟩ (c_M_yardRow l D cy 0 0 _) (va_cwS 2 hts gX12_loading_X12_yardRow rfl rfl rfl (by decide +kernel) ⟨(Nat.le_of_ble_eq_true rfl), (Nat.le_of_ble_eq_true rfl)⟩) (pre_S hKX hP hD [] rfl (by decide) rfl) rfl rfl hl.1 rfl (lv_room (Nat.le_of_ble_eq_true rfl)) dX12_loading_65 ⟨(Nat.le_of_ble_eq_true rfl), (Nat.le_of_ble_eq_true rfl)⟩) hP hD hS hA [] [0, 1, 2, 3] rfl rfl (by decide) (by decide) (fun u17 H locs _ hP hD hS => ?_)
            have hP : va_P D vwCl [(mh, .inr (12, [.int 0, .int 100, .int 200, .int 5, .int 100, .int 0, .int 0, .int 0, .int 0, .int 0, .int 0, .ref (mq 0), .int 0, .ref (mq 1), .ref (mq 2), .ref (mq 3), .ref (mq 4), .ref (mq 5), .ref (mq 6), .ref (mq 7), .ref (mq 8), .ref (mq 9), .ref (mq 10), .int 0, .ref (mq 11), .ref (mq 12), .ref (mq 13), .int 0, .ref (mq 14), .ref (mq 15), .ref (mq 16), .ref (mq 17), .ref (mq 18), .int 0, .int 0, .int 0, .int 0, .int 0, .int 0, .int 0, .int (-1), .ref (mq 19), .ref (mq 20), .ref (mq 21), .ref (mq 22), .ref (mq 23), .ref (mq 24), .int 0, .int 0, .int 0, .ref (mq 25), .ref (mq 26), .ref (mq 27), .ref (mq 28), .ref (mq 29)])), (mc11 cy mh mq), (mc20 cy mh mq), (mc21 cy mh mq)] H := hP
            have hD : va_D A [(mh, .inr (12, [.int 0, .int 100, .int 200, .int 5, .int 100, .int 0, .int 0, .int 0, .int 0, .int 0, .int 0, .ref (mq 0), .int 0, .ref (mq 1), .ref (mq 2), .ref (mq 3), .ref (mq 4), .ref (mq 5), .ref (mq 6), .ref (mq 7), .ref (mq 8), .ref (mq 9), .ref (mq 10), .int 0, .ref (mq 11), .ref (mq 12), .ref (mq 13), .int 0, .ref (mq 14), .ref (mq 15), .ref (mq 16), .ref (mq 17), .ref (mq 18), .int 0, .int 0, .int 0, .int 0, .int 0, .int 0, .int 0, .int (-1), .ref (mq 19), .ref (mq 20), .ref (mq 21), .ref (mq 22), .ref (mq 23), .ref (mq 24), .int 0, .int 0, .int 0, .ref (mq 25), .ref (mq 26), .ref (mq 27), .ref (mq 28), .ref (mq 29)])), (mc11 cy mh mq), (mc20 cy mh mq), (mc21 cy mh mq)] := hD
            refine lv_cst 4 (by decide) ?_
            refine va_iald hx hb hKX.1 hP 1 0 rfl rfl (vind (by decide)) dX12_loading_68 ?_
            refine lv_cst 0 rfl ?_
            refine lv_icmp_gt (tgt := 106) hx hb dX12_loading_69 (by decide) (fun c9 => absurd c9 (by decide)) (fun _ => ?_)
            refine lv_iload_n hx hb dX12_loading_72 rfl (lv_at hl 2 rfl) ?_
            refine lv_aload_n hx hb dX12_loading_73 rfl (lv_at hl 0 rfl) ?_
            refine va_get (D := D) (ci := 12) (v := .ref (mq 10)) (C := RX12) (T := TX12) (N := 55) hx hb hts iw_X12_loading_X12 hown hKX.1 hP 0 rfl rfl 22 (by decide) (hts (.fieldLink RX12 58 "TrainFerryModel" "many" "[I") (by decide +kernel)) (fun _ h9 => h9) rfl dX12_loading_74 ?_
            refine lv_aload_n hx hb dX12_loading_77 rfl (lv_at hl 0 rfl) ?_
            refine va_get (D := D) (ci := 12) (v := .int 0) (C := RX12) (T := TX12) (N := 55) hx hb hts iw_X12_loading_X12 hown hKX.1 hP 0 rfl rfl 7 (by decide) (hts (.fieldLink RX12 161 "TrainFerryModel" "shore" "I") (by decide +kernel)) (fun _ h9 => h9) rfl dX12_loading_78 ?_
            refine lv_iconst (v := 1) hx hb dX12_loading_81 (by decide) ?_
            refine cl_i (wr := [(mh, .inr (12, [.int 0, .int 100, .int 200, .int 5, .int 100, .int 0, .int 0, .int 0, .int 0, .int 0, .int 0, .ref (mq 0), .int 0, .ref (mq 1), .ref (mq 2), .ref (mq 3), .ref (mq 4), .ref (mq 5), .ref (mq 6), .ref (mq 7), .ref (mq 8), .ref (mq 9), .ref (mq 10), .int 0, .ref (mq 11), .ref (mq 12), .ref (mq 13), .int 0, .ref (mq 14), .ref (mq 15), .ref (mq 16), .ref (mq 17), .ref (mq 18), .int 0, .int 0, .int 0, .int 0, .int 0, .int 0, .int 0, .int (-1), .ref (mq 19), .ref (mq 20), .ref (mq 21), .ref (mq 22), .ref (mq 23), .ref (mq 24), .int 0, .int 0, .int 0, .ref (mq 25), .ref (mq 26), .ref (mq 27), .ref (mq 28), .ref (mq 29)])), (mc11 cy mh mq), (mc20 cy mh mq), (mc21 cy mh mq)]) (va_runS (As := [.int 0, .int 1]) (rest := [.ref (mq 10), .int 0]) ⟨hx, hb, hml, hown, hts⟩ (c_M_yardRow l D cy 0 1 _) (va_cwS 2 hts gX12_loading_X12_yardRow rfl rfl rfl (by decide +kernel) ⟨(Nat.le_of_ble_eq_true rfl), (Nat.le_of_ble_eq_true rfl)⟩) (pre_S hKX hP hD [] rfl (by decide) rfl) rfl rfl hl.1 rfl (lv_room (Nat.le_of_ble_eq_true rfl)) dX12_loading_82 ⟨(Nat.le_of_ble_eq_true rfl), (Nat.le_of_ble_eq_true rfl)⟩) hP hD hS hA [] [0, 1, 2, 3] rfl rfl (by decide) (by decide) (fun u18 H locs _ hP hD hS => ?_)
            have hP : va_P D vwCl [(mh, .inr (12, [.int 0, .int 100, .int 200, .int 5, .int 100, .int 0, .int 0, .int 0, .int 0, .int 0, .int 0, .ref (mq 0), .int 0, .ref (mq 1), .ref (mq 2), .ref (mq 3), .ref (mq 4), .ref (mq 5), .ref (mq 6), .ref (mq 7), .ref (mq 8), .ref (mq 9), .ref (mq 10), .int 0, .ref (mq 11), .ref (mq 12), .ref (mq 13), .int 0, .ref (mq 14), .ref (mq 15), .ref (mq 16), .ref (mq 17), .ref (mq 18), .int 0, .int 0, .int 0, .int 0, .int 0, .int 0, .int 0, .int (-1), .ref (mq 19), .ref (mq 20), .ref (mq 21), .ref (mq 22), .ref (mq 23), .ref (mq 24), .int 0, .int 0, .int 0, .ref (mq 25), .ref (mq 26), .ref (mq 27), .ref (mq 28), .ref (mq 29)])), (mc11 cy mh mq), (mc20 cy mh mq), (mc21 cy mh mq)] H := hP
            have hD : va_D A [(mh, .inr (12, [.int 0, .int 100, .int 200, .int 5, .int 100, .int 0, .int 0, .int 0, .int 0, .int 0, .int 0, .ref (mq 0), .int 0, .ref (mq 1), .ref (mq 2), .ref (mq 3), .ref (mq 4), .ref (mq 5), .ref (mq 6), .ref (mq 7), .ref (mq 8), .ref (mq 9), .ref (mq 10), .int 0, .ref (mq 11), .ref (mq 12), .ref (mq 13), .int 0, .ref (mq 14), .ref (mq 15), .ref (mq 16), .ref (mq 17), .ref (mq 18), .int 0, .int 0, .int 0, .int 0, .int 0, .int 0, .int 0, .int (-1), .ref (mq 19), .ref (mq 20), .ref (mq 21), .ref (mq 22), .ref (mq 23), .ref (mq 24), .int 0, .int 0, .int 0, .ref (mq 25), .ref (mq 26), .ref (mq 27), .ref (mq 28), .ref (mq 29)])), (mc11 cy mh mq), (mc20 cy mh mq), (mc21 cy mh mq)] := hD
            refine lv_cst 5 (by decide) ?_
            refine va_iald hx hb hKX.1 hP 1 0 rfl rfl (vind (by decide)) dX12_loading_85 ?_
            refine lv_cst 0 rfl ?_
            refine lv_icmp_gt (tgt := 106) hx hb dX12_loading_86 (by decide) (fun c9 => absurd c9 (by decide)) (fun _ => ?_)
            refine lv_iload_n hx hb dX12_loading_89 rfl (lv_at hl 3 rfl) ?_
            refine lv_aload_n hx hb dX12_loading_90 rfl (lv_at hl 0 rfl) ?_
            refine va_get (D := D) (ci := 12) (v := .ref (mq 10)) (C := RX12) (T := TX12) (N := 55) hx hb hts iw_X12_loading_X12 hown hKX.1 hP 0 rfl rfl 22 (by decide) (hts (.fieldLink RX12 58 "TrainFerryModel" "many" "[I") (by decide +kernel)) (fun _ h9 => h9) rfl dX12_loading_91 ?_
            refine lv_aload_n hx hb dX12_loading_94 rfl (lv_at hl 0 rfl) ?_
            refine va_get (D := D) (ci := 12) (v := .int 0) (C := RX12) (T := TX12) (N := 55) hx hb hts iw_X12_loading_X12 hown hKX.1 hP 0 rfl rfl 7 (by decide) (hts (.fieldLink RX12 161 "TrainFerryModel" "shore" "I") (by decide +kernel)) (fun _ h9 => h9) rfl dX12_loading_95 ?_
            refine lv_iconst (v := 2) hx hb dX12_loading_98 (by decide) ?_
            refine cl_i (wr := [(mh, .inr (12, [.int 0, .int 100, .int 200, .int 5, .int 100, .int 0, .int 0, .int 0, .int 0, .int 0, .int 0, .ref (mq 0), .int 0, .ref (mq 1), .ref (mq 2), .ref (mq 3), .ref (mq 4), .ref (mq 5), .ref (mq 6), .ref (mq 7), .ref (mq 8), .ref (mq 9), .ref (mq 10), .int 0, .ref (mq 11), .ref (mq 12), .ref (mq 13), .int 0, .ref (mq 14), .ref (mq 15), .ref (mq 16), .ref (mq 17), .ref (mq 18), .int 0, .int 0, .int 0, .int 0, .int 0, .int 0, .int 0, .int (-1), .ref (mq 19), .ref (mq 20), .ref (mq 21), .ref (mq 22), .ref (mq 23), .ref (mq 24), .int 0, .int 0, .int 0, .ref (mq 25), .ref (mq 26), .ref (mq 27), .ref (mq 28), .ref (mq 29)])), (mc11 cy mh mq), (mc20 cy mh mq), (mc21 cy mh mq)]) (va_runS (As := [.int 0, .int 2]) (rest := [.ref (mq 10), .int xc]) ⟨hx, hb, hml, hown, hts⟩ (c_M_yardRow l D cy 0 2 _) (va_cwS 2 hts gX12_loading_X12_yardRow rfl rfl rfl (by decide +kernel) ⟨(Nat.le_of_ble_eq_true rfl), (Nat.le_of_ble_eq_true rfl)⟩) (pre_S hKX hP hD [] rfl (by decide) rfl) rfl rfl hl.1 rfl (lv_room (Nat.le_of_ble_eq_true rfl)) dX12_loading_99 ⟨(Nat.le_of_ble_eq_true rfl), (Nat.le_of_ble_eq_true rfl)⟩) hP hD hS hA [] [0, 1, 2, 3] rfl rfl (by decide) (by decide) (fun u19 H locs _ hP hD hS => ?_)
            have hP : va_P D vwCl [(mh, .inr (12, [.int 0, .int 100, .int 200, .int 5, .int 100, .int 0, .int 0, .int 0, .int 0, .int 0, .int 0, .ref (mq 0), .int 0, .ref (mq 1), .ref (mq 2), .ref (mq 3), .ref (mq 4), .ref (mq 5), .ref (mq 6), .ref (mq 7), .ref (mq 8), .ref (mq 9), .ref (mq 10), .int 0, .ref (mq 11), .ref (mq 12), .ref (mq 13), .int 0, .ref (mq 14), .ref (mq 15), .ref (mq 16), .ref (mq 17), .ref (mq 18), .int 0, .int 0, .int 0, .int 0, .int 0, .int 0, .int 0, .int (-1), .ref (mq 19), .ref (mq 20), .ref (mq 21), .ref (mq 22), .ref (mq 23), .ref (mq 24), .int 0, .int 0, .int 0, .ref (mq 25), .ref (mq 26), .ref (mq 27), .ref (mq 28), .ref (mq 29)])), (mc11 cy mh mq), (mc20 cy mh mq), (mc21 cy mh mq)] H := hP
            have hD : va_D A [(mh, .inr (12, [.int 0, .int 100, .int 200, .int 5, .int 100, .int 0, .int 0, .int 0, .int 0, .int 0, .int 0, .ref (mq 0), .int 0, .ref (mq 1), .ref (mq 2), .ref (mq 3), .ref (mq 4), .ref (mq 5), .ref (mq 6), .ref (mq 7), .ref (mq 8), .ref (mq 9), .ref (mq 10), .int 0, .ref (mq 11), .ref (mq 12), .ref (mq 13), .int 0, .ref (mq 14), .ref (mq 15), .ref (mq 16), .ref (mq 17), .ref (mq 18), .int 0, .int 0, .int 0, .int 0, .int 0, .int 0, .int 0, .int (-1), .ref (mq 19), .ref (mq 20), .ref (mq 21), .ref (mq 22), .ref (mq 23), .ref (mq 24), .int 0, .int 0, .int 0, .ref (mq 25), .ref (mq 26), .ref (mq 27), .ref (mq 28), .ref (mq 29)])), (mc11 cy mh mq), (mc20 cy mh mq), (mc21 cy mh mq)] := hD
            refine lv_cst 6 (by decide) ?_
            refine va_iald hx hb hKX.1 hP 1 0 rfl rfl (vind (by decide)) dX12_loading_102 ?_
            refine lv_cst 0 rfl ?_
            refine lv_icmp_le (tgt := 108) hx hb dX12_loading_103 (by decide) (fun c9 => absurd c9 (ld_out o3 c15)) (fun _ => ?_)
            refine lv_iconst (v := (-1)) hx hb dX12_loading_106 (by decide) ?_
            exact en_i hx hb hr hlocks () (by simp [fLoad, wic1, wic2, wic3, wic4, wic5, wic6, o3, c15, c16]) trivial (hP.sub [] rfl) (hD.sub [] (by decide) rfl) hS (Nat.le_of_ble_eq_true rfl) (Nat.le_of_ble_eq_true rfl) dX12_loading_107
    · refine lv_aload_n hx hb dX12_loading_0 rfl (lv_at hl 0 rfl) ?_
      refine lv_iconst (v := 0) hx hb dX12_loading_1 (by decide) ?_
      refine va_put (D := D) (ci := 12) (v := .int 0) (ty := .int) (C := RX12) (T := TX12) (N := 55) hx hb hts iw_X12_loading_X12 tyX12 tyX12_ok nmX12 hown hKX.1 hP hD hS 0 rfl rfl 0 (by decide) (hts (.fieldLink RX12 1 "TrainFerryModel" "thrown" "I") (by decide +kernel)) (fun _ h9 => h9) rfl (by decide +kernel) rfl rfl (Nat.le_of_ble_eq_true rfl) dX12_loading_2 (fun H locs hP hD hS => ?_)
      have hP : va_P D vwCl [(mh, .inr (12, [.int 0, .int 100, .int 200, .int 5, .int 100, .int 0, .int 0, .int 0, .int 0, .int 0, .int 0, .ref (mq 0), .int 0, .ref (mq 1), .ref (mq 2), .ref (mq 3), .ref (mq 4), .ref (mq 5), .ref (mq 6), .ref (mq 7), .ref (mq 8), .ref (mq 9), .ref (mq 10), .int 0, .ref (mq 11), .ref (mq 12), .ref (mq 13), .int 0, .ref (mq 14), .ref (mq 15), .ref (mq 16), .ref (mq 17), .ref (mq 18), .int 0, .int 0, .int 0, .int 0, .int 0, .int 0, .int 0, .int (-1), .ref (mq 19), .ref (mq 20), .ref (mq 21), .ref (mq 22), .ref (mq 23), .ref (mq 24), .int 0, .int 0, .int 0, .ref (mq 25), .ref (mq 26), .ref (mq 27), .ref (mq 28), .ref (mq 29)])), (mc11 cy mh mq), (mc20 cy mh mq), (mc21 cy mh mq)] H := hP
      have hD : va_D A [(mh, .inr (12, [.int 0, .int 100, .int 200, .int 5, .int 100, .int 0, .int 0, .int 0, .int 0, .int 0, .int 0, .ref (mq 0), .int 0, .ref (mq 1), .ref (mq 2), .ref (mq 3), .ref (mq 4), .ref (mq 5), .ref (mq 6), .ref (mq 7), .ref (mq 8), .ref (mq 9), .ref (mq 10), .int 0, .ref (mq 11), .ref (mq 12), .ref (mq 13), .int 0, .ref (mq 14), .ref (mq 15), .ref (mq 16), .ref (mq 17), .ref (mq 18), .int 0, .int 0, .int 0, .int 0, .int 0, .int 0, .int 0, .int (-1), .ref (mq 19), .ref (mq 20), .ref (mq 21), .ref (mq 22), .ref (mq 23), .ref (mq 24), .int 0, .int 0, .int 0, .ref (mq 25), .ref (mq 26), .ref (mq 27), .ref (mq 28), .ref (mq 29)])), (mc11 cy mh mq), (mc20 cy mh mq), (mc21 cy mh mq)] := hD
      refine lv_iload_n hx hb dX12_loading_5 rfl (lv_at hl 1 rfl) ?_
      refine lv_iconst (v := 0) hx hb dX12_loading_6 (by decide) ?_
      refine lv_bipush (v := 6) hx hb dX12_loading_7 (by decide) ?_
      refine cl_i (wr := [(mh, .inr (12, [.int 0, .int 100, .int 200, .int 5, .int 100, .int 0, .int 0, .int 0, .int 0, .int 0, .int 0, .ref (mq 0), .int 0, .ref (mq 1), .ref (mq 2), .ref (mq 3), .ref (mq 4), .ref (mq 5), .ref (mq 6), .ref (mq 7), .ref (mq 8), .ref (mq 9), .ref (mq 10), .int 0, .ref (mq 11), .ref (mq 12), .ref (mq 13), .int 0, .ref (mq 14), .ref (mq 15), .ref (mq 16), .ref (mq 17), .ref (mq 18), .int 0, .int 0, .int 0, .int 0, .int 0, .int 0, .int 0, .int (-1), .ref (mq 19), .ref (mq 20), .ref (mq 21), .ref (mq 22), .ref (mq 23), .ref (mq 24), .int 0, .int 0, .int 0, .ref (mq 25), .ref (mq 26), .ref (mq 27), .ref (mq 28), .ref (mq 29)])), (mc11 cy mh mq), (mc20 cy mh mq), (mc21 cy mh mq)]) (va_runS (As := [.int 0, .int 0, .int 6]) (rest := []) ⟨hx, hb, hml, hown, hts⟩ (c_within l D cy 0 0 6 _) (va_cwS 3 hts gX12_loading_X12_within rfl rfl rfl (by decide +kernel) ⟨(Nat.le_of_ble_eq_true rfl), (Nat.le_of_ble_eq_true rfl)⟩) (pre_S hKX hP hD [] rfl (by decide) rfl) rfl rfl hl.1 rfl (lv_room (Nat.le_of_ble_eq_true rfl)) dX12_loading_9 ⟨(Nat.le_of_ble_eq_true rfl), (Nat.le_of_ble_eq_true rfl)⟩) hP hD hS hA [] [0, 1, 2, 3] rfl rfl (by decide) (by decide) (fun u20 H locs _ hP hD hS => ?_)
      have hP : va_P D vwCl [(mh, .inr (12, [.int 0, .int 100, .int 200, .int 5, .int 100, .int 0, .int 0, .int 0, .int 0, .int 0, .int 0, .ref (mq 0), .int 0, .ref (mq 1), .ref (mq 2), .ref (mq 3), .ref (mq 4), .ref (mq 5), .ref (mq 6), .ref (mq 7), .ref (mq 8), .ref (mq 9), .ref (mq 10), .int 0, .ref (mq 11), .ref (mq 12), .ref (mq 13), .int 0, .ref (mq 14), .ref (mq 15), .ref (mq 16), .ref (mq 17), .ref (mq 18), .int 0, .int 0, .int 0, .int 0, .int 0, .int 0, .int 0, .int (-1), .ref (mq 19), .ref (mq 20), .ref (mq 21), .ref (mq 22), .ref (mq 23), .ref (mq 24), .int 0, .int 0, .int 0, .ref (mq 25), .ref (mq 26), .ref (mq 27), .ref (mq 28), .ref (mq 29)])), (mc11 cy mh mq), (mc20 cy mh mq), (mc21 cy mh mq)] H := hP
      have hD : va_D A [(mh, .inr (12, [.int 0, .int 100, .int 200, .int 5, .int 100, .int 0, .int 0, .int 0, .int 0, .int 0, .int 0, .ref (mq 0), .int 0, .ref (mq 1), .ref (mq 2), .ref (mq 3), .ref (mq 4), .ref (mq 5), .ref (mq 6), .ref (mq 7), .ref (mq 8), .ref (mq 9), .ref (mq 10), .int 0, .ref (mq 11), .ref (mq 12), .ref (mq 13), .int 0, .ref (mq 14), .ref (mq 15), .ref (mq 16), .ref (mq 17), .ref (mq 18), .int 0, .int 0, .int 0, .int 0, .int 0, .int 0, .int 0, .int (-1), .ref (mq 19), .ref (mq 20), .ref (mq 21), .ref (mq 22), .ref (mq 23), .ref (mq 24), .int 0, .int 0, .int 0, .ref (mq 25), .ref (mq 26), .ref (mq 27), .ref (mq 28), .ref (mq 29)])), (mc11 cy mh mq), (mc20 cy mh mq), (mc21 cy mh mq)] := hD
      refine lv_cst 1 (by decide) ?_
      refine lv_if_eq (tgt := 53) hx hb dX12_loading_12 (by decide) (fun c9 => absurd c9 (by decide)) (fun _ => ?_)
      refine lv_iload_n hx hb dX12_loading_15 rfl (lv_at hl 2 rfl) ?_
      refine lv_iconst (v := 0) hx hb dX12_loading_16 (by decide) ?_
      refine lv_bipush (v := 6) hx hb dX12_loading_17 (by decide) ?_
      refine cl_i (wr := [(mh, .inr (12, [.int 0, .int 100, .int 200, .int 5, .int 100, .int 0, .int 0, .int 0, .int 0, .int 0, .int 0, .ref (mq 0), .int 0, .ref (mq 1), .ref (mq 2), .ref (mq 3), .ref (mq 4), .ref (mq 5), .ref (mq 6), .ref (mq 7), .ref (mq 8), .ref (mq 9), .ref (mq 10), .int 0, .ref (mq 11), .ref (mq 12), .ref (mq 13), .int 0, .ref (mq 14), .ref (mq 15), .ref (mq 16), .ref (mq 17), .ref (mq 18), .int 0, .int 0, .int 0, .int 0, .int 0, .int 0, .int 0, .int (-1), .ref (mq 19), .ref (mq 20), .ref (mq 21), .ref (mq 22), .ref (mq 23), .ref (mq 24), .int 0, .int 0, .int 0, .ref (mq 25), .ref (mq 26), .ref (mq 27), .ref (mq 28), .ref (mq 29)])), (mc11 cy mh mq), (mc20 cy mh mq), (mc21 cy mh mq)]) (va_runS (As := [.int xb, .int 0, .int 6]) (rest := []) ⟨hx, hb, hml, hown, hts⟩ (c_within l D cy xb 0 6 _) (va_cwS 3 hts gX12_loading_X12_within rfl rfl rfl (by decide +kernel) ⟨(Nat.le_of_ble_eq_true rfl), (Nat.le_of_ble_eq_true rfl)⟩) (pre_S hKX hP hD [] rfl (by decide) rfl) rfl rfl hl.1 rfl (lv_room (Nat.le_of_ble_eq_true rfl)) dX12_loading_19 ⟨(Nat.le_of_ble_eq_true rfl), (Nat.le_of_ble_eq_true rfl)⟩) hP hD hS hA [] [0, 1, 2, 3] rfl rfl (by decide) (by decide) (fun u21 H locs _ hP hD hS => ?_)
      have hP : va_P D vwCl [(mh, .inr (12, [.int 0, .int 100, .int 200, .int 5, .int 100, .int 0, .int 0, .int 0, .int 0, .int 0, .int 0, .ref (mq 0), .int 0, .ref (mq 1), .ref (mq 2), .ref (mq 3), .ref (mq 4), .ref (mq 5), .ref (mq 6), .ref (mq 7), .ref (mq 8), .ref (mq 9), .ref (mq 10), .int 0, .ref (mq 11), .ref (mq 12), .ref (mq 13), .int 0, .ref (mq 14), .ref (mq 15), .ref (mq 16), .ref (mq 17), .ref (mq 18), .int 0, .int 0, .int 0, .int 0, .int 0, .int 0, .int 0, .int (-1), .ref (mq 19), .ref (mq 20), .ref (mq 21), .ref (mq 22), .ref (mq 23), .ref (mq 24), .int 0, .int 0, .int 0, .ref (mq 25), .ref (mq 26), .ref (mq 27), .ref (mq 28), .ref (mq 29)])), (mc11 cy mh mq), (mc20 cy mh mq), (mc21 cy mh mq)] H := hP
      have hD : va_D A [(mh, .inr (12, [.int 0, .int 100, .int 200, .int 5, .int 100, .int 0, .int 0, .int 0, .int 0, .int 0, .int 0, .ref (mq 0), .int 0, .ref (mq 1), .ref (mq 2), .ref (mq 3), .ref (mq 4), .ref (mq 5), .ref (mq 6), .ref (mq 7), .ref (mq 8), .ref (mq 9), .ref (mq 10), .int 0, .ref (mq 11), .ref (mq 12), .ref (mq 13), .int 0, .ref (mq 14), .ref (mq 15), .ref (mq 16), .ref (mq 17), .ref (mq 18), .int 0, .int 0, .int 0, .int 0, .int 0, .int 0, .int 0, .int (-1), .ref (mq 19), .ref (mq 20), .ref (mq 21), .ref (mq 22), .ref (mq 23), .ref (mq 24), .int 0, .int 0, .int 0, .ref (mq 25), .ref (mq 26), .ref (mq 27), .ref (mq 28), .ref (mq 29)])), (mc11 cy mh mq), (mc20 cy mh mq), (mc21 cy mh mq)] := hD
      refine lv_if_eq (tgt := 53) hx hb dX12_loading_22 (by decide) (fun c22 => ?_) (fun c22 => ?_)
      · refine lv_iconst (v := (-1)) hx hb dX12_loading_53 (by decide) ?_
        exact en_i hx hb hr hlocks () (by simp [fLoad, wic1, wic2, wic3, wic4, wic5, wic6, o2, c22]) trivial (hP.sub [] rfl) (hD.sub [] (by decide) rfl) hS (Nat.le_of_ble_eq_true rfl) (Nat.le_of_ble_eq_true rfl) dX12_loading_54
      · refine lv_iload_n hx hb dX12_loading_25 rfl (lv_at hl 3 rfl) ?_
        refine lv_iconst (v := 0) hx hb dX12_loading_26 (by decide) ?_
        refine lv_bipush (v := 6) hx hb dX12_loading_27 (by decide) ?_
        refine cl_i (wr := [(mh, .inr (12, [.int 0, .int 100, .int 200, .int 5, .int 100, .int 0, .int 0, .int 0, .int 0, .int 0, .int 0, .ref (mq 0), .int 0, .ref (mq 1), .ref (mq 2), .ref (mq 3), .ref (mq 4), .ref (mq 5), .ref (mq 6), .ref (mq 7), .ref (mq 8), .ref (mq 9), .ref (mq 10), .int 0, .ref (mq 11), .ref (mq 12), .ref (mq 13), .int 0, .ref (mq 14), .ref (mq 15), .ref (mq 16), .ref (mq 17), .ref (mq 18), .int 0, .int 0, .int 0, .int 0, .int 0, .int 0, .int 0, .int (-1), .ref (mq 19), .ref (mq 20), .ref (mq 21), .ref (mq 22), .ref (mq 23), .ref (mq 24), .int 0, .int 0, .int 0, .ref (mq 25), .ref (mq 26), .ref (mq 27), .ref (mq 28), .ref (mq 29)])), (mc11 cy mh mq), (mc20 cy mh mq), (mc21 cy mh mq)]) (va_runS (As := [.int xc, .int 0, .int 6]) (rest := []) ⟨hx, hb, hml, hown, hts⟩ (c_within l D cy xc 0 6 _) (va_cwS 3 hts gX12_loading_X12_within rfl rfl rfl (by decide +kernel) ⟨(Nat.le_of_ble_eq_true rfl), (Nat.le_of_ble_eq_true rfl)⟩) (pre_S hKX hP hD [] rfl (by decide) rfl) rfl rfl hl.1 rfl (lv_room (Nat.le_of_ble_eq_true rfl)) dX12_loading_29 ⟨(Nat.le_of_ble_eq_true rfl), (Nat.le_of_ble_eq_true rfl)⟩) hP hD hS hA [] [0, 1, 2, 3] rfl rfl (by decide) (by decide) (fun u23 H locs _ hP hD hS => ?_)
        have hP : va_P D vwCl [(mh, .inr (12, [.int 0, .int 100, .int 200, .int 5, .int 100, .int 0, .int 0, .int 0, .int 0, .int 0, .int 0, .ref (mq 0), .int 0, .ref (mq 1), .ref (mq 2), .ref (mq 3), .ref (mq 4), .ref (mq 5), .ref (mq 6), .ref (mq 7), .ref (mq 8), .ref (mq 9), .ref (mq 10), .int 0, .ref (mq 11), .ref (mq 12), .ref (mq 13), .int 0, .ref (mq 14), .ref (mq 15), .ref (mq 16), .ref (mq 17), .ref (mq 18), .int 0, .int 0, .int 0, .int 0, .int 0, .int 0, .int 0, .int (-1), .ref (mq 19), .ref (mq 20), .ref (mq 21), .ref (mq 22), .ref (mq 23), .ref (mq 24), .int 0, .int 0, .int 0, .ref (mq 25), .ref (mq 26), .ref (mq 27), .ref (mq 28), .ref (mq 29)])), (mc11 cy mh mq), (mc20 cy mh mq), (mc21 cy mh mq)] H := hP
        have hD : va_D A [(mh, .inr (12, [.int 0, .int 100, .int 200, .int 5, .int 100, .int 0, .int 0, .int 0, .int 0, .int 0, .int 0, .ref (mq 0), .int 0, .ref (mq 1), .ref (mq 2), .ref (mq 3), .ref (mq 4), .ref (mq 5), .ref (mq 6), .ref (mq 7), .ref (mq 8), .ref (mq 9), .ref (mq 10), .int 0, .ref (mq 11), .ref (mq 12), .ref (mq 13), .int 0, .ref (mq 14), .ref (mq 15), .ref (mq 16), .ref (mq 17), .ref (mq 18), .int 0, .int 0, .int 0, .int 0, .int 0, .int 0, .int 0, .int (-1), .ref (mq 19), .ref (mq 20), .ref (mq 21), .ref (mq 22), .ref (mq 23), .ref (mq 24), .int 0, .int 0, .int 0, .ref (mq 25), .ref (mq 26), .ref (mq 27), .ref (mq 28), .ref (mq 29)])), (mc11 cy mh mq), (mc20 cy mh mq), (mc21 cy mh mq)] := hD
        refine lv_if_eq (tgt := 53) hx hb dX12_loading_32 (by decide) (fun c24 => ?_) (fun c24 => ?_)
        · refine lv_iconst (v := (-1)) hx hb dX12_loading_53 (by decide) ?_
          exact en_i hx hb hr hlocks () (by simp [fLoad, wic1, wic2, wic3, wic4, wic5, wic6, o2, c22, c24]) trivial (hP.sub [] rfl) (hD.sub [] (by decide) rfl) hS (Nat.le_of_ble_eq_true rfl) (Nat.le_of_ble_eq_true rfl) dX12_loading_54
        · refine lv_iload_n hx hb dX12_loading_35 rfl (lv_at hl 1 rfl) ?_
          refine lv_iload_n hx hb dX12_loading_36 rfl (lv_at hl 2 rfl) ?_
          refine lv_iadd hx hb dX12_loading_37 ?_
          refine lv_iload_n hx hb dX12_loading_38 rfl (lv_at hl 3 rfl) ?_
          refine lv_iadd hx hb dX12_loading_39 ?_
          refine lv_bipush (v := 6) hx hb dX12_loading_40 (by decide) ?_
          refine lv_icmp_gt (tgt := 53) hx hb dX12_loading_42 (by decide) (fun c25 => ?_) (fun c25 => ?_)
          · refine lv_iconst (v := (-1)) hx hb dX12_loading_53 (by decide) ?_
            exact en_i hx hb hr hlocks () (by simp [fLoad, wic1, wic2, wic3, wic4, wic5, wic6, o2, c22, c24, c25]) trivial (hP.sub [] rfl) (hD.sub [] (by decide) rfl) hS (Nat.le_of_ble_eq_true rfl) (Nat.le_of_ble_eq_true rfl) dX12_loading_54
          · refine lv_aload_n hx hb dX12_loading_45 rfl (lv_at hl 0 rfl) ?_
            refine va_get (D := D) (ci := 12) (v := .int 0) (C := RX12) (T := TX12) (N := 55) hx hb hts iw_X12_loading_X12 hown hKX.1 hP 0 rfl rfl 7 (by decide) (hts (.fieldLink RX12 161 "TrainFerryModel" "shore" "I") (by decide +kernel)) (fun _ h9 => h9) rfl dX12_loading_46 ?_
            refine lv_iconst (v := 2) hx hb dX12_loading_49 (by decide) ?_
            refine lv_icmp_ne (tgt := 55) hx hb dX12_loading_50 (by decide) (fun _ => ?_) (fun c9 => absurd c9 (by decide))
            refine lv_iload_n hx hb dX12_loading_55 rfl (lv_at hl 1 rfl) ?_
            refine lv_aload_n hx hb dX12_loading_56 rfl (lv_at hl 0 rfl) ?_
            refine va_get (D := D) (ci := 12) (v := .ref (mq 10)) (C := RX12) (T := TX12) (N := 55) hx hb hts iw_X12_loading_X12 hown hKX.1 hP 0 rfl rfl 22 (by decide) (hts (.fieldLink RX12 58 "TrainFerryModel" "many" "[I") (by decide +kernel)) (fun _ h9 => h9) rfl dX12_loading_57 ?_
            refine lv_aload_n hx hb dX12_loading_60 rfl (lv_at hl 0 rfl) ?_
            refine va_get (D := D) (ci := 12) (v := .int 0) (C := RX12) (T := TX12) (N := 55) hx hb hts iw_X12_loading_X12 hown hKX.1 hP 0 rfl rfl 7 (by decide) (hts (.fieldLink RX12 161 "TrainFerryModel" "shore" "I") (by decide +kernel)) (fun _ h9 => h9) rfl dX12_loading_61 ?_
            refine lv_iconst (v := 0) hx hb dX12_loading_64 (by decide) ?_
            refine cl_i (wr := [(mh, .inr (12, [.int 0, .int 100, .int 200, .int 5, .int 100, .int 0, .int 0, .int 0, .int 0, .int 0, .int 0, .ref (mq 0), .int 0, .ref (mq 1), .ref (mq 2), .ref (mq 3), .ref (mq 4), .ref (mq 5), .ref (mq 6), .ref (mq 7), .ref (mq 8), .ref (mq 9), .ref (mq 10), .int 0, .ref (mq 11), .ref (mq 12), .ref (mq 13), .int 0, .ref (mq 14), .ref (mq 15), .ref (mq 16), .ref (mq 17), .ref (mq 18), .int 0, .int 0, .int 0, .int 0, .int 0, .int 0, .int 0, .int (-1), .ref (mq 19), .ref (mq 20), .ref (mq 21), .ref (mq 22), .ref (mq 23), .ref (mq 24), .int 0, .int 0, .int 0, .ref (mq 25), .ref (mq 26), .ref (mq 27), .ref (mq 28), .ref (mq 29)])), (mc11 cy mh mq), (mc20 cy mh mq), (mc21 cy mh mq)]) (va_runS (As := [.int 0, .int 0]) (rest := [.ref (mq 10), .int 0]) ⟨hx, hb, hml, hown, hts⟩ (c_M_yardRow l D cy 0 0 _) (va_cwS 2 hts gX12_loading_X12_yardRow rfl rfl rfl (by decide +kernel) ⟨(Nat.le_of_ble_eq_true rfl), (Nat.le_of_ble_eq_true rfl)⟩) (pre_S hKX hP hD [] rfl (by decide) rfl) rfl rfl hl.1 rfl (lv_room (Nat.le_of_ble_eq_true rfl)) dX12_loading_65 ⟨(Nat.le_of_ble_eq_true rfl), (Nat.le_of_ble_eq_true rfl)⟩) hP hD hS hA [] [0, 1, 2, 3] rfl rfl (by decide) (by decide) (fun u26 H locs _ hP hD hS => ?_)
            have hP : va_P D vwCl [(mh, .inr (12, [.int 0, .int 100, .int 200, .int 5, .int 100, .int 0, .int 0, .int 0, .int 0, .int 0, .int 0, .ref (mq 0), .int 0, .ref (mq 1), .ref (mq 2), .ref (mq 3), .ref (mq 4), .ref (mq 5), .ref (mq 6), .ref (mq 7), .ref (mq 8), .ref (mq 9), .ref (mq 10), .int 0, .ref (mq 11), .ref (mq 12), .ref (mq 13), .int 0, .ref (mq 14), .ref (mq 15), .ref (mq 16), .ref (mq 17), .ref (mq 18), .int 0, .int 0, .int 0, .int 0, .int 0, .int 0, .int 0, .int (-1), .ref (mq 19), .ref (mq 20), .ref (mq 21), .ref (mq 22), .ref (mq 23), .ref (mq 24), .int 0, .int 0, .int 0, .ref (mq 25), .ref (mq 26), .ref (mq 27), .ref (mq 28), .ref (mq 29)])), (mc11 cy mh mq), (mc20 cy mh mq), (mc21 cy mh mq)] H := hP
            have hD : va_D A [(mh, .inr (12, [.int 0, .int 100, .int 200, .int 5, .int 100, .int 0, .int 0, .int 0, .int 0, .int 0, .int 0, .ref (mq 0), .int 0, .ref (mq 1), .ref (mq 2), .ref (mq 3), .ref (mq 4), .ref (mq 5), .ref (mq 6), .ref (mq 7), .ref (mq 8), .ref (mq 9), .ref (mq 10), .int 0, .ref (mq 11), .ref (mq 12), .ref (mq 13), .int 0, .ref (mq 14), .ref (mq 15), .ref (mq 16), .ref (mq 17), .ref (mq 18), .int 0, .int 0, .int 0, .int 0, .int 0, .int 0, .int 0, .int (-1), .ref (mq 19), .ref (mq 20), .ref (mq 21), .ref (mq 22), .ref (mq 23), .ref (mq 24), .int 0, .int 0, .int 0, .ref (mq 25), .ref (mq 26), .ref (mq 27), .ref (mq 28), .ref (mq 29)])), (mc11 cy mh mq), (mc20 cy mh mq), (mc21 cy mh mq)] := hD
            refine lv_cst 4 (by decide) ?_
            refine va_iald hx hb hKX.1 hP 1 0 rfl rfl (vind (by decide)) dX12_loading_68 ?_
            refine lv_cst 0 rfl ?_
            refine lv_icmp_gt (tgt := 106) hx hb dX12_loading_69 (by decide) (fun c9 => absurd c9 (by decide)) (fun _ => ?_)
            refine lv_iload_n hx hb dX12_loading_72 rfl (lv_at hl 2 rfl) ?_
            refine lv_aload_n hx hb dX12_loading_73 rfl (lv_at hl 0 rfl) ?_
            refine va_get (D := D) (ci := 12) (v := .ref (mq 10)) (C := RX12) (T := TX12) (N := 55) hx hb hts iw_X12_loading_X12 hown hKX.1 hP 0 rfl rfl 22 (by decide) (hts (.fieldLink RX12 58 "TrainFerryModel" "many" "[I") (by decide +kernel)) (fun _ h9 => h9) rfl dX12_loading_74 ?_
            refine lv_aload_n hx hb dX12_loading_77 rfl (lv_at hl 0 rfl) ?_
            refine va_get (D := D) (ci := 12) (v := .int 0) (C := RX12) (T := TX12) (N := 55) hx hb hts iw_X12_loading_X12 hown hKX.1 hP 0 rfl rfl 7 (by decide) (hts (.fieldLink RX12 161 "TrainFerryModel" "shore" "I") (by decide +kernel)) (fun _ h9 => h9) rfl dX12_loading_78 ?_
            refine lv_iconst (v := 1) hx hb dX12_loading_81 (by decide) ?_
            refine cl_i (wr := [(mh, .inr (12, [.int 0, .int 100, .int 200, .int 5, .int 100, .int 0, .int 0, .int 0, .int 0, .int 0, .int 0, .ref (mq 0), .int 0, .ref (mq 1), .ref (mq 2), .ref (mq 3), .ref (mq 4), .ref (mq 5), .ref (mq 6), .ref (mq 7), .ref (mq 8), .ref (mq 9), .ref (mq 10), .int 0, .ref (mq 11), .ref (mq 12), .ref (mq 13), .int 0, .ref (mq 14), .ref (mq 15), .ref (mq 16), .ref (mq 17), .ref (mq 18), .int 0, .int 0, .int 0, .int 0, .int 0, .int 0, .int 0, .int (-1), .ref (mq 19), .ref (mq 20), .ref (mq 21), .ref (mq 22), .ref (mq 23), .ref (mq 24), .int 0, .int 0, .int 0, .ref (mq 25), .ref (mq 26), .ref (mq 27), .ref (mq 28), .ref (mq 29)])), (mc11 cy mh mq), (mc20 cy mh mq), (mc21 cy mh mq)]) (va_runS (As := [.int 0, .int 1]) (rest := [.ref (mq 10), .int xb]) ⟨hx, hb, hml, hown, hts⟩ (c_M_yardRow l D cy 0 1 _) (va_cwS 2 hts gX12_loading_X12_yardRow rfl rfl rfl (by decide +kernel) ⟨(Nat.le_of_ble_eq_true rfl), (Nat.le_of_ble_eq_true rfl)⟩) (pre_S hKX hP hD [] rfl (by decide) rfl) rfl rfl hl.1 rfl (lv_room (Nat.le_of_ble_eq_true rfl)) dX12_loading_82 ⟨(Nat.le_of_ble_eq_true rfl), (Nat.le_of_ble_eq_true rfl)⟩) hP hD hS hA [] [0, 1, 2, 3] rfl rfl (by decide) (by decide) (fun u27 H locs _ hP hD hS => ?_)
            have hP : va_P D vwCl [(mh, .inr (12, [.int 0, .int 100, .int 200, .int 5, .int 100, .int 0, .int 0, .int 0, .int 0, .int 0, .int 0, .ref (mq 0), .int 0, .ref (mq 1), .ref (mq 2), .ref (mq 3), .ref (mq 4), .ref (mq 5), .ref (mq 6), .ref (mq 7), .ref (mq 8), .ref (mq 9), .ref (mq 10), .int 0, .ref (mq 11), .ref (mq 12), .ref (mq 13), .int 0, .ref (mq 14), .ref (mq 15), .ref (mq 16), .ref (mq 17), .ref (mq 18), .int 0, .int 0, .int 0, .int 0, .int 0, .int 0, .int 0, .int (-1), .ref (mq 19), .ref (mq 20), .ref (mq 21), .ref (mq 22), .ref (mq 23), .ref (mq 24), .int 0, .int 0, .int 0, .ref (mq 25), .ref (mq 26), .ref (mq 27), .ref (mq 28), .ref (mq 29)])), (mc11 cy mh mq), (mc20 cy mh mq), (mc21 cy mh mq)] H := hP
            have hD : va_D A [(mh, .inr (12, [.int 0, .int 100, .int 200, .int 5, .int 100, .int 0, .int 0, .int 0, .int 0, .int 0, .int 0, .ref (mq 0), .int 0, .ref (mq 1), .ref (mq 2), .ref (mq 3), .ref (mq 4), .ref (mq 5), .ref (mq 6), .ref (mq 7), .ref (mq 8), .ref (mq 9), .ref (mq 10), .int 0, .ref (mq 11), .ref (mq 12), .ref (mq 13), .int 0, .ref (mq 14), .ref (mq 15), .ref (mq 16), .ref (mq 17), .ref (mq 18), .int 0, .int 0, .int 0, .int 0, .int 0, .int 0, .int 0, .int (-1), .ref (mq 19), .ref (mq 20), .ref (mq 21), .ref (mq 22), .ref (mq 23), .ref (mq 24), .int 0, .int 0, .int 0, .ref (mq 25), .ref (mq 26), .ref (mq 27), .ref (mq 28), .ref (mq 29)])), (mc11 cy mh mq), (mc20 cy mh mq), (mc21 cy mh mq)] := hD
            refine lv_cst 5 (by decide) ?_
            refine va_iald hx hb hKX.1 hP 1 0 rfl rfl (vind (by decide)) dX12_loading_85 ?_
            refine lv_cst 0 rfl ?_
            refine lv_icmp_gt (tgt := 106) hx hb dX12_loading_86 (by decide) (fun _ => ?_) (fun c9 => absurd (ld_out2 o2 c22) c9)
            refine lv_iconst (v := (-1)) hx hb dX12_loading_106 (by decide) ?_
            exact en_i hx hb hr hlocks () (by simp [fLoad, wic1, wic2, wic3, wic4, wic5, wic6, o2, c22, c24, c25]) trivial (hP.sub [] rfl) (hD.sub [] (by decide) rfl) hS (Nat.le_of_ble_eq_true rfl) (Nat.le_of_ble_eq_true rfl) dX12_loading_107
  · refine lv_aload_n hx hb dX12_loading_0 rfl (lv_at hl 0 rfl) ?_
    refine lv_iconst (v := 0) hx hb dX12_loading_1 (by decide) ?_
    refine va_put (D := D) (ci := 12) (v := .int 0) (ty := .int) (C := RX12) (T := TX12) (N := 55) hx hb hts iw_X12_loading_X12 tyX12 tyX12_ok nmX12 hown hKX.1 hP hD hS 0 rfl rfl 0 (by decide) (hts (.fieldLink RX12 1 "TrainFerryModel" "thrown" "I") (by decide +kernel)) (fun _ h9 => h9) rfl (by decide +kernel) rfl rfl (Nat.le_of_ble_eq_true rfl) dX12_loading_2 (fun H locs hP hD hS => ?_)
    have hP : va_P D vwCl [(mh, .inr (12, [.int 0, .int 100, .int 200, .int 5, .int 100, .int 0, .int 0, .int 0, .int 0, .int 0, .int 0, .ref (mq 0), .int 0, .ref (mq 1), .ref (mq 2), .ref (mq 3), .ref (mq 4), .ref (mq 5), .ref (mq 6), .ref (mq 7), .ref (mq 8), .ref (mq 9), .ref (mq 10), .int 0, .ref (mq 11), .ref (mq 12), .ref (mq 13), .int 0, .ref (mq 14), .ref (mq 15), .ref (mq 16), .ref (mq 17), .ref (mq 18), .int 0, .int 0, .int 0, .int 0, .int 0, .int 0, .int 0, .int (-1), .ref (mq 19), .ref (mq 20), .ref (mq 21), .ref (mq 22), .ref (mq 23), .ref (mq 24), .int 0, .int 0, .int 0, .ref (mq 25), .ref (mq 26), .ref (mq 27), .ref (mq 28), .ref (mq 29)])), (mc11 cy mh mq), (mc20 cy mh mq), (mc21 cy mh mq)] H := hP
    have hD : va_D A [(mh, .inr (12, [.int 0, .int 100, .int 200, .int 5, .int 100, .int 0, .int 0, .int 0, .int 0, .int 0, .int 0, .ref (mq 0), .int 0, .ref (mq 1), .ref (mq 2), .ref (mq 3), .ref (mq 4), .ref (mq 5), .ref (mq 6), .ref (mq 7), .ref (mq 8), .ref (mq 9), .ref (mq 10), .int 0, .ref (mq 11), .ref (mq 12), .ref (mq 13), .int 0, .ref (mq 14), .ref (mq 15), .ref (mq 16), .ref (mq 17), .ref (mq 18), .int 0, .int 0, .int 0, .int 0, .int 0, .int 0, .int 0, .int (-1), .ref (mq 19), .ref (mq 20), .ref (mq 21), .ref (mq 22), .ref (mq 23), .ref (mq 24), .int 0, .int 0, .int 0, .ref (mq 25), .ref (mq 26), .ref (mq 27), .ref (mq 28), .ref (mq 29)])), (mc11 cy mh mq), (mc20 cy mh mq), (mc21 cy mh mq)] := hD
    refine lv_iload_n hx hb dX12_loading_5 rfl (lv_at hl 1 rfl) ?_
    refine lv_iconst (v := 0) hx hb dX12_loading_6 (by decide) ?_
    refine lv_bipush (v := 6) hx hb dX12_loading_7 (by decide) ?_
    refine cl_i (wr := [(mh, .inr (12, [.int 0, .int 100, .int 200, .int 5, .int 100, .int 0, .int 0, .int 0, .int 0, .int 0, .int 0, .ref (mq 0), .int 0, .ref (mq 1), .ref (mq 2), .ref (mq 3), .ref (mq 4), .ref (mq 5), .ref (mq 6), .ref (mq 7), .ref (mq 8), .ref (mq 9), .ref (mq 10), .int 0, .ref (mq 11), .ref (mq 12), .ref (mq 13), .int 0, .ref (mq 14), .ref (mq 15), .ref (mq 16), .ref (mq 17), .ref (mq 18), .int 0, .int 0, .int 0, .int 0, .int 0, .int 0, .int 0, .int (-1), .ref (mq 19), .ref (mq 20), .ref (mq 21), .ref (mq 22), .ref (mq 23), .ref (mq 24), .int 0, .int 0, .int 0, .ref (mq 25), .ref (mq 26), .ref (mq 27), .ref (mq 28), .ref (mq 29)])), (mc11 cy mh mq), (mc20 cy mh mq), (mc21 cy mh mq)]) (va_runS (As := [.int xa, .int 0, .int 6]) (rest := []) ⟨hx, hb, hml, hown, hts⟩ (c_within l D cy xa 0 6 _) (va_cwS 3 hts gX12_loading_X12_within rfl rfl rfl (by decide +kernel) ⟨(Nat.le_of_ble_eq_true rfl), (Nat.le_of_ble_eq_true rfl)⟩) (pre_S hKX hP hD [] rfl (by decide) rfl) rfl rfl hl.1 rfl (lv_room (Nat.le_of_ble_eq_true rfl)) dX12_loading_9 ⟨(Nat.le_of_ble_eq_true rfl), (Nat.le_of_ble_eq_true rfl)⟩) hP hD hS hA [] [0, 1, 2, 3] rfl rfl (by decide) (by decide) (fun u28 H locs _ hP hD hS => ?_)
    have hP : va_P D vwCl [(mh, .inr (12, [.int 0, .int 100, .int 200, .int 5, .int 100, .int 0, .int 0, .int 0, .int 0, .int 0, .int 0, .ref (mq 0), .int 0, .ref (mq 1), .ref (mq 2), .ref (mq 3), .ref (mq 4), .ref (mq 5), .ref (mq 6), .ref (mq 7), .ref (mq 8), .ref (mq 9), .ref (mq 10), .int 0, .ref (mq 11), .ref (mq 12), .ref (mq 13), .int 0, .ref (mq 14), .ref (mq 15), .ref (mq 16), .ref (mq 17), .ref (mq 18), .int 0, .int 0, .int 0, .int 0, .int 0, .int 0, .int 0, .int (-1), .ref (mq 19), .ref (mq 20), .ref (mq 21), .ref (mq 22), .ref (mq 23), .ref (mq 24), .int 0, .int 0, .int 0, .ref (mq 25), .ref (mq 26), .ref (mq 27), .ref (mq 28), .ref (mq 29)])), (mc11 cy mh mq), (mc20 cy mh mq), (mc21 cy mh mq)] H := hP
    have hD : va_D A [(mh, .inr (12, [.int 0, .int 100, .int 200, .int 5, .int 100, .int 0, .int 0, .int 0, .int 0, .int 0, .int 0, .ref (mq 0), .int 0, .ref (mq 1), .ref (mq 2), .ref (mq 3), .ref (mq 4), .ref (mq 5), .ref (mq 6), .ref (mq 7), .ref (mq 8), .ref (mq 9), .ref (mq 10), .int 0, .ref (mq 11), .ref (mq 12), .ref (mq 13), .int 0, .ref (mq 14), .ref (mq 15), .ref (mq 16), .ref (mq 17), .ref (mq 18), .int 0, .int 0, .int 0, .int 0, .int 0, .int 0, .int 0, .int (-1), .ref (mq 19), .ref (mq 20), .ref (mq 21), .ref (mq 22), .ref (mq 23), .ref (mq 24), .int 0, .int 0, .int 0, .ref (mq 25), .ref (mq 26), .ref (mq 27), .ref (mq 28), .ref (mq 29)])), (mc11 cy mh mq), (mc20 cy mh mq), (mc21 cy mh mq)] := hD
    refine lv_if_eq (tgt := 53) hx hb dX12_loading_12 (by decide) (fun c29 => ?_) (fun c29 => ?_)
    · refine lv_iconst (v := (-1)) hx hb dX12_loading_53 (by decide) ?_
      exact en_i hx hb hr hlocks () (by simp [fLoad, wic1, wic2, wic3, wic4, wic5, wic6, o1, c29]) trivial (hP.sub [] rfl) (hD.sub [] (by decide) rfl) hS (Nat.le_of_ble_eq_true rfl) (Nat.le_of_ble_eq_true rfl) dX12_loading_54
    · refine lv_iload_n hx hb dX12_loading_15 rfl (lv_at hl 2 rfl) ?_
      refine lv_iconst (v := 0) hx hb dX12_loading_16 (by decide) ?_
      refine lv_bipush (v := 6) hx hb dX12_loading_17 (by decide) ?_
      refine cl_i (wr := [(mh, .inr (12, [.int 0, .int 100, .int 200, .int 5, .int 100, .int 0, .int 0, .int 0, .int 0, .int 0, .int 0, .ref (mq 0), .int 0, .ref (mq 1), .ref (mq 2), .ref (mq 3), .ref (mq 4), .ref (mq 5), .ref (mq 6), .ref (mq 7), .ref (mq 8), .ref (mq 9), .ref (mq 10), .int 0, .ref (mq 11), .ref (mq 12), .ref (mq 13), .int 0, .ref (mq 14), .ref (mq 15), .ref (mq 16), .ref (mq 17), .ref (mq 18), .int 0, .int 0, .int 0, .int 0, .int 0, .int 0, .int 0, .int (-1), .ref (mq 19), .ref (mq 20), .ref (mq 21), .ref (mq 22), .ref (mq 23), .ref (mq 24), .int 0, .int 0, .int 0, .ref (mq 25), .ref (mq 26), .ref (mq 27), .ref (mq 28), .ref (mq 29)])), (mc11 cy mh mq), (mc20 cy mh mq), (mc21 cy mh mq)]) (va_runS (As := [.int xb, .int 0, .int 6]) (rest := []) ⟨hx, hb, hml, hown, hts⟩ (c_within l D cy xb 0 6 _) (va_cwS 3 hts gX12_loading_X12_within rfl rfl rfl (by decide +kernel) ⟨(Nat.le_of_ble_eq_true rfl), (Nat.le_of_ble_eq_true rfl)⟩) (pre_S hKX hP hD [] rfl (by decide) rfl) rfl rfl hl.1 rfl (lv_room (Nat.le_of_ble_eq_true rfl)) dX12_loading_19 ⟨(Nat.le_of_ble_eq_true rfl), (Nat.le_of_ble_eq_true rfl)⟩) hP hD hS hA [] [0, 1, 2, 3] rfl rfl (by decide) (by decide) (fun u30 H locs _ hP hD hS => ?_)
      have hP : va_P D vwCl [(mh, .inr (12, [.int 0, .int 100, .int 200, .int 5, .int 100, .int 0, .int 0, .int 0, .int 0, .int 0, .int 0, .ref (mq 0), .int 0, .ref (mq 1), .ref (mq 2), .ref (mq 3), .ref (mq 4), .ref (mq 5), .ref (mq 6), .ref (mq 7), .ref (mq 8), .ref (mq 9), .ref (mq 10), .int 0, .ref (mq 11), .ref (mq 12), .ref (mq 13), .int 0, .ref (mq 14), .ref (mq 15), .ref (mq 16), .ref (mq 17), .ref (mq 18), .int 0, .int 0, .int 0, .int 0, .int 0, .int 0, .int 0, .int (-1), .ref (mq 19), .ref (mq 20), .ref (mq 21), .ref (mq 22), .ref (mq 23), .ref (mq 24), .int 0, .int 0, .int 0, .ref (mq 25), .ref (mq 26), .ref (mq 27), .ref (mq 28), .ref (mq 29)])), (mc11 cy mh mq), (mc20 cy mh mq), (mc21 cy mh mq)] H := hP
      have hD : va_D A [(mh, .inr (12, [.int 0, .int 100, .int 200, .int 5, .int 100, .int 0, .int 0, .int 0, .int 0, .int 0, .int 0, .ref (mq 0), .int 0, .ref (mq 1), .ref (mq 2), .ref (mq 3), .ref (mq 4), .ref (mq 5), .ref (mq 6), .ref (mq 7), .ref (mq 8), .ref (mq 9), .ref (mq 10), .int 0, .ref (mq 11), .ref (mq 12), .ref (mq 13), .int 0, .ref (mq 14), .ref (mq 15), .ref (mq 16), .ref (mq 17), .ref (mq 18), .int 0, .int 0, .int 0, .int 0, .int 0, .int 0, .int 0, .int (-1), .ref (mq 19), .ref (mq 20), .ref (mq 21), .ref (mq 22), .ref (mq 23), .ref (mq 24), .int 0, .int 0, .int 0, .ref (mq 25), .ref (mq 26), .ref (mq 27), .ref (mq 28), .ref (mq 29)])), (mc11 cy mh mq), (mc20 cy mh mq), (mc21 cy mh mq)] := hD
      refine lv_if_eq (tgt := 53) hx hb dX12_loading_22 (by decide) (fun c31 => ?_) (fun c31 => ?_)
      · refine lv_iconst (v := (-1)) hx hb dX12_loading_53 (by decide) ?_
        exact en_i hx hb hr hlocks () (by simp [fLoad, wic1, wic2, wic3, wic4, wic5, wic6, o1, c29, c31]) trivial (hP.sub [] rfl) (hD.sub [] (by decide) rfl) hS (Nat.le_of_ble_eq_true rfl) (Nat.le_of_ble_eq_true rfl) dX12_loading_54
      · refine lv_iload_n hx hb dX12_loading_25 rfl (lv_at hl 3 rfl) ?_
        refine lv_iconst (v := 0) hx hb dX12_loading_26 (by decide) ?_
        refine lv_bipush (v := 6) hx hb dX12_loading_27 (by decide) ?_
        refine cl_i (wr := [(mh, .inr (12, [.int 0, .int 100, .int 200, .int 5, .int 100, .int 0, .int 0, .int 0, .int 0, .int 0, .int 0, .ref (mq 0), .int 0, .ref (mq 1), .ref (mq 2), .ref (mq 3), .ref (mq 4), .ref (mq 5), .ref (mq 6), .ref (mq 7), .ref (mq 8), .ref (mq 9), .ref (mq 10), .int 0, .ref (mq 11), .ref (mq 12), .ref (mq 13), .int 0, .ref (mq 14), .ref (mq 15), .ref (mq 16), .ref (mq 17), .ref (mq 18), .int 0, .int 0, .int 0, .int 0, .int 0, .int 0, .int 0, .int (-1), .ref (mq 19), .ref (mq 20), .ref (mq 21), .ref (mq 22), .ref (mq 23), .ref (mq 24), .int 0, .int 0, .int 0, .ref (mq 25), .ref (mq 26), .ref (mq 27), .ref (mq 28), .ref (mq 29)])), (mc11 cy mh mq), (mc20 cy mh mq), (mc21 cy mh mq)]) (va_runS (As := [.int xc, .int 0, .int 6]) (rest := []) ⟨hx, hb, hml, hown, hts⟩ (c_within l D cy xc 0 6 _) (va_cwS 3 hts gX12_loading_X12_within rfl rfl rfl (by decide +kernel) ⟨(Nat.le_of_ble_eq_true rfl), (Nat.le_of_ble_eq_true rfl)⟩) (pre_S hKX hP hD [] rfl (by decide) rfl) rfl rfl hl.1 rfl (lv_room (Nat.le_of_ble_eq_true rfl)) dX12_loading_29 ⟨(Nat.le_of_ble_eq_true rfl), (Nat.le_of_ble_eq_true rfl)⟩) hP hD hS hA [] [0, 1, 2, 3] rfl rfl (by decide) (by decide) (fun u32 H locs _ hP hD hS => ?_)
        have hP : va_P D vwCl [(mh, .inr (12, [.int 0, .int 100, .int 200, .int 5, .int 100, .int 0, .int 0, .int 0, .int 0, .int 0, .int 0, .ref (mq 0), .int 0, .ref (mq 1), .ref (mq 2), .ref (mq 3), .ref (mq 4), .ref (mq 5), .ref (mq 6), .ref (mq 7), .ref (mq 8), .ref (mq 9), .ref (mq 10), .int 0, .ref (mq 11), .ref (mq 12), .ref (mq 13), .int 0, .ref (mq 14), .ref (mq 15), .ref (mq 16), .ref (mq 17), .ref (mq 18), .int 0, .int 0, .int 0, .int 0, .int 0, .int 0, .int 0, .int (-1), .ref (mq 19), .ref (mq 20), .ref (mq 21), .ref (mq 22), .ref (mq 23), .ref (mq 24), .int 0, .int 0, .int 0, .ref (mq 25), .ref (mq 26), .ref (mq 27), .ref (mq 28), .ref (mq 29)])), (mc11 cy mh mq), (mc20 cy mh mq), (mc21 cy mh mq)] H := hP
        have hD : va_D A [(mh, .inr (12, [.int 0, .int 100, .int 200, .int 5, .int 100, .int 0, .int 0, .int 0, .int 0, .int 0, .int 0, .ref (mq 0), .int 0, .ref (mq 1), .ref (mq 2), .ref (mq 3), .ref (mq 4), .ref (mq 5), .ref (mq 6), .ref (mq 7), .ref (mq 8), .ref (mq 9), .ref (mq 10), .int 0, .ref (mq 11), .ref (mq 12), .ref (mq 13), .int 0, .ref (mq 14), .ref (mq 15), .ref (mq 16), .ref (mq 17), .ref (mq 18), .int 0, .int 0, .int 0, .int 0, .int 0, .int 0, .int 0, .int (-1), .ref (mq 19), .ref (mq 20), .ref (mq 21), .ref (mq 22), .ref (mq 23), .ref (mq 24), .int 0, .int 0, .int 0, .ref (mq 25), .ref (mq 26), .ref (mq 27), .ref (mq 28), .ref (mq 29)])), (mc11 cy mh mq), (mc20 cy mh mq), (mc21 cy mh mq)] := hD
        refine lv_if_eq (tgt := 53) hx hb dX12_loading_32 (by decide) (fun c33 => ?_) (fun c33 => ?_)
        · refine lv_iconst (v := (-1)) hx hb dX12_loading_53 (by decide) ?_
          exact en_i hx hb hr hlocks () (by simp [fLoad, wic1, wic2, wic3, wic4, wic5, wic6, o1, c29, c31, c33]) trivial (hP.sub [] rfl) (hD.sub [] (by decide) rfl) hS (Nat.le_of_ble_eq_true rfl) (Nat.le_of_ble_eq_true rfl) dX12_loading_54
        · refine lv_iload_n hx hb dX12_loading_35 rfl (lv_at hl 1 rfl) ?_
          refine lv_iload_n hx hb dX12_loading_36 rfl (lv_at hl 2 rfl) ?_
          refine lv_iadd hx hb dX12_loading_37 ?_
          refine lv_iload_n hx hb dX12_loading_38 rfl (lv_at hl 3 rfl) ?_
          refine lv_iadd hx hb dX12_loading_39 ?_
          refine lv_bipush (v := 6) hx hb dX12_loading_40 (by decide) ?_
          refine lv_icmp_gt (tgt := 53) hx hb dX12_loading_42 (by decide) (fun c34 => ?_) (fun c34 => ?_)
          · refine lv_iconst (v := (-1)) hx hb dX12_loading_53 (by decide) ?_
            exact en_i hx hb hr hlocks () (by simp [fLoad, wic1, wic2, wic3, wic4, wic5, wic6, o1, c29, c31, c33, c34]) trivial (hP.sub [] rfl) (hD.sub [] (by decide) rfl) hS (Nat.le_of_ble_eq_true rfl) (Nat.le_of_ble_eq_true rfl) dX12_loading_54
          · refine lv_aload_n hx hb dX12_loading_45 rfl (lv_at hl 0 rfl) ?_
            refine va_get (D := D) (ci := 12) (v := .int 0) (C := RX12) (T := TX12) (N := 55) hx hb hts iw_X12_loading_X12 hown hKX.1 hP 0 rfl rfl 7 (by decide) (hts (.fieldLink RX12 161 "TrainFerryModel" "shore" "I") (by decide +kernel)) (fun _ h9 => h9) rfl dX12_loading_46 ?_
            refine lv_iconst (v := 2) hx hb dX12_loading_49 (by decide) ?_
            refine lv_icmp_ne (tgt := 55) hx hb dX12_loading_50 (by decide) (fun _ => ?_) (fun c9 => absurd c9 (by decide))
            refine lv_iload_n hx hb dX12_loading_55 rfl (lv_at hl 1 rfl) ?_
            refine lv_aload_n hx hb dX12_loading_56 rfl (lv_at hl 0 rfl) ?_
            refine va_get (D := D) (ci := 12) (v := .ref (mq 10)) (C := RX12) (T := TX12) (N := 55) hx hb hts iw_X12_loading_X12 hown hKX.1 hP 0 rfl rfl 22 (by decide) (hts (.fieldLink RX12 58 "TrainFerryModel" "many" "[I") (by decide +kernel)) (fun _ h9 => h9) rfl dX12_loading_57 ?_
            refine lv_aload_n hx hb dX12_loading_60 rfl (lv_at hl 0 rfl) ?_
            refine va_get (D := D) (ci := 12) (v := .int 0) (C := RX12) (T := TX12) (N := 55) hx hb hts iw_X12_loading_X12 hown hKX.1 hP 0 rfl rfl 7 (by decide) (hts (.fieldLink RX12 161 "TrainFerryModel" "shore" "I") (by decide +kernel)) (fun _ h9 => h9) rfl dX12_loading_61 ?_
            refine lv_iconst (v := 0) hx hb dX12_loading_64 (by decide) ?_
            refine cl_i (wr := [(mh, .inr (12, [.int 0, .int 100, .int 200, .int 5, .int 100, .int 0, .int 0, .int 0, .int 0, .int 0, .int 0, .ref (mq 0), .int 0, .ref (mq 1), .ref (mq 2), .ref (mq 3), .ref (mq 4), .ref (mq 5), .ref (mq 6), .ref (mq 7), .ref (mq 8), .ref (mq 9), .ref (mq 10), .int 0, .ref (mq 11), .ref (mq 12), .ref (mq 13), .int 0, .ref (mq 14), .ref (mq 15), .ref (mq 16), .ref (mq 17), .ref (mq 18), .int 0, .int 0, .int 0, .int 0, .int 0, .int 0, .int 0, .int (-1), .ref (mq 19), .ref (mq 20), .ref (mq 21), .ref (mq 22), .ref (mq 23), .ref (mq 24), .int 0, .int 0, .int 0, .ref (mq 25), .ref (mq 26), .ref (mq 27), .ref (mq 28), .ref (mq 29)])), (mc11 cy mh mq), (mc20 cy mh mq), (mc21 cy mh mq)]) (va_runS (As := [.int 0, .int 0]) (rest := [.ref (mq 10), .int xa]) ⟨hx, hb, hml, hown, hts⟩ (c_M_yardRow l D cy 0 0 _) (va_cwS 2 hts gX12_loading_X12_yardRow rfl rfl rfl (by decide +kernel) ⟨(Nat.le_of_ble_eq_true rfl), (Nat.le_of_ble_eq_true rfl)⟩) (pre_S hKX hP hD [] rfl (by decide) rfl) rfl rfl hl.1 rfl (lv_room (Nat.le_of_ble_eq_true rfl)) dX12_loading_65 ⟨(Nat.le_of_ble_eq_true rfl), (Nat.le_of_ble_eq_true rfl)⟩) hP hD hS hA [] [0, 1, 2, 3] rfl rfl (by decide) (by decide) (fun u35 H locs _ hP hD hS => ?_)
            have hP : va_P D vwCl [(mh, .inr (12, [.int 0, .int 100, .int 200, .int 5, .int 100, .int 0, .int 0, .int 0, .int 0, .int 0, .int 0, .ref (mq 0), .int 0, .ref (mq 1), .ref (mq 2), .ref (mq 3), .ref (mq 4), .ref (mq 5), .ref (mq 6), .ref (mq 7), .ref (mq 8), .ref (mq 9), .ref (mq 10), .int 0, .ref (mq 11), .ref (mq 12), .ref (mq 13), .int 0, .ref (mq 14), .ref (mq 15), .ref (mq 16), .ref (mq 17), .ref (mq 18), .int 0, .int 0, .int 0, .int 0, .int 0, .int 0, .int 0, .int (-1), .ref (mq 19), .ref (mq 20), .ref (mq 21), .ref (mq 22), .ref (mq 23), .ref (mq 24), .int 0, .int 0, .int 0, .ref (mq 25), .ref (mq 26), .ref (mq 27), .ref (mq 28), .ref (mq 29)])), (mc11 cy mh mq), (mc20 cy mh mq), (mc21 cy mh mq)] H := hP
            have hD : va_D A [(mh, .inr (12, [.int 0, .int 100, .int 200, .int 5, .int 100, .int 0, .int 0, .int 0, .int 0, .int 0, .int 0, .ref (mq 0), .int 0, .ref (mq 1), .ref (mq 2), .ref (mq 3), .ref (mq 4), .ref (mq 5), .ref (mq 6), .ref (mq 7), .ref (mq 8), .ref (mq 9), .ref (mq 10), .int 0, .ref (mq 11), .ref (mq 12), .ref (mq 13), .int 0, .ref (mq 14), .ref (mq 15), .ref (mq 16), .ref (mq 17), .ref (mq 18), .int 0, .int 0, .int 0, .int 0, .int 0, .int 0, .int 0, .int (-1), .ref (mq 19), .ref (mq 20), .ref (mq 21), .ref (mq 22), .ref (mq 23), .ref (mq 24), .int 0, .int 0, .int 0, .ref (mq 25), .ref (mq 26), .ref (mq 27), .ref (mq 28), .ref (mq 29)])), (mc11 cy mh mq), (mc20 cy mh mq), (mc21 cy mh mq)] := hD
            refine lv_cst 4 (by decide) ?_
            refine va_iald hx hb hKX.1 hP 1 0 rfl rfl (vind (by decide)) dX12_loading_68 ?_
            refine lv_cst 0 rfl ?_
            refine lv_icmp_gt (tgt := 106) hx hb dX12_loading_69 (by decide) (fun _ => ?_) (fun c9 => absurd (ld_out2 o1 c29) c9)
            refine lv_iconst (v := (-1)) hx hb dX12_loading_106 (by decide) ?_
            exact en_i hx hb hr hlocks () (by simp [fLoad, wic1, wic2, wic3, wic4, wic5, wic6, o1, c29, c31, c33, c34]) trivial (hP.sub [] rfl) (hD.sub [] (by decide) rfl) hS (Nat.le_of_ble_eq_true rfl) (Nat.le_of_ble_eq_true rfl) dX12_loading_107
theorem iw_X12_step_X12 : ∀ w ∈ wsX120, w ∈ wsX12_step := by decide +kernel
set_option maxHeartbeats 4000000 in
set_option maxRecDepth 100000 in
theorem m_step (l : Launch) (D : va_G) (cy : Nat → ClassId) (mh : Nat) (mq : Nat → Nat) (xi : Int32) (xk : Int32) (sz : Nat) : Met l yX12_step wsX12_step ({ frames := 0, cells := 0, slots := 0, locals := 0 }) (wPre D cy [.ref mh, .int xi, .int xk] sz [(mc0 cy mh mq)]) (wQi D (-1) (fun _ : Unit => True) (fun _u : Unit => []) (va_A [(mc0 cy mh mq)] sz)) 0 0 (va_A [(mc0 cy mh mq)] sz) := by
  refine met_go (y := yX12_step) (ws := wsX12_step) (av := [.ref mh, .int xi, .int xk]) (cc := cX12_step) (maxL := 3) (ret := (some .int)) (Qc := fun A => wQi D (-1) (fun _ : Unit => True) (fun _u : Unit => []) A) (by decide) rfl (Nat.le_of_ble_eq_true rfl) ?_
  intro p e s m below meth c ls A hx hb hr hml hown hts hlocks hname hKX hP hD hA hS hl
  have hown : s.vm.findClass RX12 = some m.cls := hown
  have hl : lv_has ls 3 [(0, .ref mh), (1, .int xi), (2, .int xk)] := hl
  refine lv_aload_n hx hb dX12_step_0 rfl (lv_at hl 0 rfl) ?_
  refine lv_iconst (v := 0) hx hb dX12_step_1 (by decide) ?_
  refine va_put (D := D) (ci := 12) (v := .int 0) (ty := .int) (C := RX12) (T := TX12) (N := 55) hx hb hts iw_X12_step_X12 tyX12 tyX12_ok nmX12 hown hKX.1 hP hD hS 0 rfl rfl 0 (by decide) (hts (.fieldLink RX12 1 "TrainFerryModel" "thrown" "I") (by decide +kernel)) (fun _ h9 => h9) rfl (by decide +kernel) rfl rfl (Nat.le_of_ble_eq_true rfl) dX12_step_2 (fun H locs hP hD hS => ?_)
  have hP : va_P D vwCl [(mh, .inr (12, [.int 0, .int 100, .int 200, .int 5, .int 100, .int 0, .int 0, .int 0, .int 0, .int 0, .int 0, .ref (mq 0), .int 0, .ref (mq 1), .ref (mq 2), .ref (mq 3), .ref (mq 4), .ref (mq 5), .ref (mq 6), .ref (mq 7), .ref (mq 8), .ref (mq 9), .ref (mq 10), .int 0, .ref (mq 11), .ref (mq 12), .ref (mq 13), .int 0, .ref (mq 14), .ref (mq 15), .ref (mq 16), .ref (mq 17), .ref (mq 18), .int 0, .int 0, .int 0, .int 0, .int 0, .int 0, .int 0, .int (-1), .ref (mq 19), .ref (mq 20), .ref (mq 21), .ref (mq 22), .ref (mq 23), .ref (mq 24), .int 0, .int 0, .int 0, .ref (mq 25), .ref (mq 26), .ref (mq 27), .ref (mq 28), .ref (mq 29)]))] H := hP
  have hD : va_D A [(mh, .inr (12, [.int 0, .int 100, .int 200, .int 5, .int 100, .int 0, .int 0, .int 0, .int 0, .int 0, .int 0, .ref (mq 0), .int 0, .ref (mq 1), .ref (mq 2), .ref (mq 3), .ref (mq 4), .ref (mq 5), .ref (mq 6), .ref (mq 7), .ref (mq 8), .ref (mq 9), .ref (mq 10), .int 0, .ref (mq 11), .ref (mq 12), .ref (mq 13), .int 0, .ref (mq 14), .ref (mq 15), .ref (mq 16), .ref (mq 17), .ref (mq 18), .int 0, .int 0, .int 0, .int 0, .int 0, .int 0, .int 0, .int (-1), .ref (mq 19), .ref (mq 20), .ref (mq 21), .ref (mq 22), .ref (mq 23), .ref (mq 24), .int 0, .int 0, .int 0, .ref (mq 25), .ref (mq 26), .ref (mq 27), .ref (mq 28), .ref (mq 29)]))] := hD
  refine lv_iload_n hx hb dX12_step_5 rfl (lv_at hl 1 rfl) ?_
  refine lv_if_lt (tgt := 17) hx hb dX12_step_6 (by decide) (fun c1 => ?_) (fun c1 => ?_)
  · refine lv_iconst (v := (-1)) hx hb dX12_step_17 (by decide) ?_
    exact en_i hx hb hr hlocks () rfl trivial (hP.sub [] rfl) (hD.sub [] (by decide) rfl) hS (Nat.le_of_ble_eq_true rfl) (Nat.le_of_ble_eq_true rfl) dX12_step_18
  · refine lv_iload_n hx hb dX12_step_9 rfl (lv_at hl 1 rfl) ?_
    refine lv_aload_n hx hb dX12_step_10 rfl (lv_at hl 0 rfl) ?_
    refine va_get (D := D) (ci := 12) (v := .int 0) (C := RX12) (T := TX12) (N := 55) hx hb hts iw_X12_step_X12 hown hKX.1 hP 0 rfl rfl 49 (by decide) (hts (.fieldLink RX12 315 "TrainFerryModel" "steps" "I") (by decide +kernel)) (fun _ h9 => h9) rfl dX12_step_11 ?_
    refine lv_icmp_lt (tgt := 19) hx hb dX12_step_14 (by decide) (fun c9 => absurd c9 c1) (fun _ => ?_)
    refine lv_iconst (v := (-1)) hx hb dX12_step_17 (by decide) ?_
    exact en_i hx hb hr hlocks () rfl trivial (hP.sub [] rfl) (hD.sub [] (by decide) rfl) hS (Nat.le_of_ble_eq_true rfl) (Nat.le_of_ble_eq_true rfl) dX12_step_18
set_option maxHeartbeats 4000000 in
set_option maxRecDepth 100000 in
theorem c_placeOf (l : Launch) (D : va_G) (cy : Nat → ClassId)  (sz : Nat) : Met l yX12_placeOf wsX12_placeOf ({ frames := 0, cells := 0, slots := 0, locals := 0 }) (wPre D cy [.int 0, .int 0, .int 0, .int 0] sz []) (wQi D 0 (fun _ : Unit => True) (fun _u : Unit => []) (va_A [] sz)) 0 0 (va_A [] sz) := by
  refine met_go (y := yX12_placeOf) (ws := wsX12_placeOf) (av := [.int 0, .int 0, .int 0, .int 0]) (cc := cX12_placeOf) (maxL := 4) (ret := (some .int)) (Qc := fun A => wQi D 0 (fun _ : Unit => True) (fun _u : Unit => []) A) (by decide) rfl (Nat.le_of_ble_eq_true rfl) ?_
  intro p e s m below meth c ls A hx hb hr hml hown hts hlocks hname hKX hP hD hA hS hl
  have hown : s.vm.findClass RX12 = some m.cls := hown
  have hl : lv_has ls 4 [(0, .int 0), (1, .int 0), (2, .int 0), (3, .int 0)] := hl
  refine lv_iload_n hx hb dX12_placeOf_0 rfl (lv_at hl 0 rfl) ?_
  refine lv_bipush (v := 11) hx hb dX12_placeOf_1 (by decide) ?_
  refine lv_iload_n hx hb dX12_placeOf_3 rfl (lv_at hl 1 rfl) ?_
  refine lv_bipush (v := 11) hx hb dX12_placeOf_4 (by decide) ?_
  refine lv_iload_n hx hb dX12_placeOf_6 rfl (lv_at hl 2 rfl) ?_
  refine lv_bipush (v := 11) hx hb dX12_placeOf_7 (by decide) ?_
  refine lv_iload_n hx hb dX12_placeOf_9 rfl (lv_at hl 3 rfl) ?_
  refine lv_imul hx hb dX12_placeOf_10 ?_
  refine lv_cst 0 (by decide) ?_
  refine lv_iadd hx hb dX12_placeOf_11 ?_
  refine lv_cst 0 (by decide) ?_
  refine lv_imul hx hb dX12_placeOf_12 ?_
  refine lv_cst 0 (by decide) ?_
  refine lv_iadd hx hb dX12_placeOf_13 ?_
  refine lv_cst 0 (by decide) ?_
  refine lv_imul hx hb dX12_placeOf_14 ?_
  refine lv_cst 0 (by decide) ?_
  refine lv_iadd hx hb dX12_placeOf_15 ?_
  refine lv_cst 0 (by decide) ?_
  exact en_i hx hb hr hlocks () rfl trivial (hP.sub [] rfl) (hD.sub [] (by decide) rfl) hS (Nat.le_of_ble_eq_true rfl) (Nat.le_of_ble_eq_true rfl) dX12_placeOf_16
set_option maxHeartbeats 4000000 in
set_option maxRecDepth 100000 in
theorem c_part_0 (l : Launch) (D : va_G) (cy : Nat → ClassId) (mh : Nat) (mq : Nat → Nat) (sz : Nat) : Met l yX12_part wsX12_part ({ frames := 0, cells := 0, slots := 0, locals := 0 }) (wPre D cy [.ref mh, .int 0, .int 0] sz [(mc0 cy mh mq)]) (wQi D 0 (fun _ : Unit => True) (fun _u : Unit => [(mc0 cy mh mq)]) (va_A [(mc0 cy mh mq)] sz)) 0 0 (va_A [(mc0 cy mh mq)] sz) := by
  refine met_go (y := yX12_part) (ws := wsX12_part) (av := [.ref mh, .int 0, .int 0]) (cc := cX12_part) (maxL := 5) (ret := (some .int)) (Qc := fun A => wQi D 0 (fun _ : Unit => True) (fun _u : Unit => [(mc0 cy mh mq)]) A) (by decide) rfl (Nat.le_of_ble_eq_true rfl) ?_
  intro p e s m below meth c ls A hx hb hr hml hown hts hlocks hname hKX hP hD hA hS hl
  have hown : s.vm.findClass RX12 = some m.cls := hown
  have hl : lv_has ls 5 [(0, .ref mh), (1, .int 0), (2, .int 0)] := hl
  refine lv_iconst (v := 0) hx hb dX12_part_0 (by decide) ?_
  refine lv_istore_n (lv' := [(3, .int 0), (0, .ref mh), (1, .int 0), (2, .int 0)]) hx hb dX12_part_1 rfl hl (by decide) rfl (fun ls hl => ?_)
  refine lv_iconst (v := 0) hx hb dX12_part_2 (by decide) ?_
  refine lv_istore (lv' := [(4, .int 0), (3, .int 0), (0, .ref mh), (1, .int 0), (2, .int 0)]) hx hb dX12_part_3 hl (by decide) rfl (fun ls hl => ?_)
  refine lv_iload hx hb dX12_part_5 (lv_at hl 0 rfl) ?_
  refine lv_iload_n hx hb dX12_part_7 rfl (lv_at hl 4 rfl) ?_
  refine lv_icmp_ge (tgt := 42) hx hb dX12_part_8 (by decide) (fun _ => ?_) (fun c9 => absurd (by decide) c9)
  refine lv_iload_n hx hb dX12_part_42 rfl (lv_at hl 1 rfl) ?_
  exact en_i hx hb hr hlocks () rfl trivial (hP.sub [0] rfl) (hD.sub [0] (by decide) rfl) hS (Nat.le_of_ble_eq_true rfl) (Nat.le_of_ble_eq_true rfl) dX12_part_43
set_option maxHeartbeats 4000000 in
set_option maxRecDepth 100000 in
theorem c_part_1 (l : Launch) (D : va_G) (cy : Nat → ClassId) (mh : Nat) (mq : Nat → Nat) (sz : Nat) : Met l yX12_part wsX12_part ({ frames := 0, cells := 0, slots := 0, locals := 0 }) (wPre D cy [.ref mh, .int 1, .int 0] sz [(mc0 cy mh mq)]) (wQi D 0 (fun _ : Unit => True) (fun _u : Unit => [(mc0 cy mh mq)]) (va_A [(mc0 cy mh mq)] sz)) 0 0 (va_A [(mc0 cy mh mq)] sz) := by
  refine met_go (y := yX12_part) (ws := wsX12_part) (av := [.ref mh, .int 1, .int 0]) (cc := cX12_part) (maxL := 5) (ret := (some .int)) (Qc := fun A => wQi D 0 (fun _ : Unit => True) (fun _u : Unit => [(mc0 cy mh mq)]) A) (by decide) rfl (Nat.le_of_ble_eq_true rfl) ?_
  intro p e s m below meth c ls A hx hb hr hml hown hts hlocks hname hKX hP hD hA hS hl
  have hown : s.vm.findClass RX12 = some m.cls := hown
  have hl : lv_has ls 5 [(0, .ref mh), (1, .int 1), (2, .int 0)] := hl
  refine lv_iconst (v := 0) hx hb dX12_part_0 (by decide) ?_
  refine lv_istore_n (lv' := [(3, .int 0), (0, .ref mh), (1, .int 1), (2, .int 0)]) hx hb dX12_part_1 rfl hl (by decide) rfl (fun ls hl => ?_)
  refine lv_iconst (v := 0) hx hb dX12_part_2 (by decide) ?_
  refine lv_istore (lv' := [(4, .int 0), (3, .int 0), (0, .ref mh), (1, .int 1), (2, .int 0)]) hx hb dX12_part_3 hl (by decide) rfl (fun ls hl => ?_)
  refine lv_iload hx hb dX12_part_5 (lv_at hl 0 rfl) ?_
  refine lv_iload_n hx hb dX12_part_7 rfl (lv_at hl 4 rfl) ?_
  refine lv_icmp_ge (tgt := 42) hx hb dX12_part_8 (by decide) (fun _ => ?_) (fun c9 => absurd (by decide) c9)
  refine lv_iload_n hx hb dX12_part_42 rfl (lv_at hl 1 rfl) ?_
  exact en_i hx hb hr hlocks () rfl trivial (hP.sub [0] rfl) (hD.sub [0] (by decide) rfl) hS (Nat.le_of_ble_eq_true rfl) (Nat.le_of_ble_eq_true rfl) dX12_part_43
set_option maxHeartbeats 4000000 in
set_option maxRecDepth 100000 in
theorem c_part_2 (l : Launch) (D : va_G) (cy : Nat → ClassId) (mh : Nat) (mq : Nat → Nat) (sz : Nat) : Met l yX12_part wsX12_part ({ frames := 0, cells := 0, slots := 0, locals := 0 }) (wPre D cy [.ref mh, .int 2, .int 0] sz [(mc0 cy mh mq)]) (wQi D 0 (fun _ : Unit => True) (fun _u : Unit => [(mc0 cy mh mq)]) (va_A [(mc0 cy mh mq)] sz)) 0 0 (va_A [(mc0 cy mh mq)] sz) := by
  refine met_go (y := yX12_part) (ws := wsX12_part) (av := [.ref mh, .int 2, .int 0]) (cc := cX12_part) (maxL := 5) (ret := (some .int)) (Qc := fun A => wQi D 0 (fun _ : Unit => True) (fun _u : Unit => [(mc0 cy mh mq)]) A) (by decide) rfl (Nat.le_of_ble_eq_true rfl) ?_
  intro p e s m below meth c ls A hx hb hr hml hown hts hlocks hname hKX hP hD hA hS hl
  have hown : s.vm.findClass RX12 = some m.cls := hown
  have hl : lv_has ls 5 [(0, .ref mh), (1, .int 2), (2, .int 0)] := hl
  refine lv_iconst (v := 0) hx hb dX12_part_0 (by decide) ?_
  refine lv_istore_n (lv' := [(3, .int 0), (0, .ref mh), (1, .int 2), (2, .int 0)]) hx hb dX12_part_1 rfl hl (by decide) rfl (fun ls hl => ?_)
  refine lv_iconst (v := 0) hx hb dX12_part_2 (by decide) ?_
  refine lv_istore (lv' := [(4, .int 0), (3, .int 0), (0, .ref mh), (1, .int 2), (2, .int 0)]) hx hb dX12_part_3 hl (by decide) rfl (fun ls hl => ?_)
  refine lv_iload hx hb dX12_part_5 (lv_at hl 0 rfl) ?_
  refine lv_iload_n hx hb dX12_part_7 rfl (lv_at hl 4 rfl) ?_
  refine lv_icmp_ge (tgt := 42) hx hb dX12_part_8 (by decide) (fun _ => ?_) (fun c9 => absurd (by decide) c9)
  refine lv_iload_n hx hb dX12_part_42 rfl (lv_at hl 1 rfl) ?_
  exact en_i hx hb hr hlocks () rfl trivial (hP.sub [0] rfl) (hD.sub [0] (by decide) rfl) hS (Nat.le_of_ble_eq_true rfl) (Nat.le_of_ble_eq_true rfl) dX12_part_43
set_option maxHeartbeats 4000000 in
set_option maxRecDepth 100000 in
theorem c_part_3 (l : Launch) (D : va_G) (cy : Nat → ClassId) (mh : Nat) (mq : Nat → Nat) (sz : Nat) : Met l yX12_part wsX12_part ({ frames := 0, cells := 0, slots := 0, locals := 0 }) (wPre D cy [.ref mh, .int 3, .int 0] sz [(mc0 cy mh mq)]) (wQi D 0 (fun _ : Unit => True) (fun _u : Unit => [(mc0 cy mh mq)]) (va_A [(mc0 cy mh mq)] sz)) 0 0 (va_A [(mc0 cy mh mq)] sz) := by
  refine met_go (y := yX12_part) (ws := wsX12_part) (av := [.ref mh, .int 3, .int 0]) (cc := cX12_part) (maxL := 5) (ret := (some .int)) (Qc := fun A => wQi D 0 (fun _ : Unit => True) (fun _u : Unit => [(mc0 cy mh mq)]) A) (by decide) rfl (Nat.le_of_ble_eq_true rfl) ?_
  intro p e s m below meth c ls A hx hb hr hml hown hts hlocks hname hKX hP hD hA hS hl
  have hown : s.vm.findClass RX12 = some m.cls := hown
  have hl : lv_has ls 5 [(0, .ref mh), (1, .int 3), (2, .int 0)] := hl
  refine lv_iconst (v := 0) hx hb dX12_part_0 (by decide) ?_
  refine lv_istore_n (lv' := [(3, .int 0), (0, .ref mh), (1, .int 3), (2, .int 0)]) hx hb dX12_part_1 rfl hl (by decide) rfl (fun ls hl => ?_)
  refine lv_iconst (v := 0) hx hb dX12_part_2 (by decide) ?_
  refine lv_istore (lv' := [(4, .int 0), (3, .int 0), (0, .ref mh), (1, .int 3), (2, .int 0)]) hx hb dX12_part_3 hl (by decide) rfl (fun ls hl => ?_)
  refine lv_iload hx hb dX12_part_5 (lv_at hl 0 rfl) ?_
  refine lv_iload_n hx hb dX12_part_7 rfl (lv_at hl 4 rfl) ?_
  refine lv_icmp_ge (tgt := 42) hx hb dX12_part_8 (by decide) (fun _ => ?_) (fun c9 => absurd (by decide) c9)
  refine lv_iload_n hx hb dX12_part_42 rfl (lv_at hl 1 rfl) ?_
  exact en_i hx hb hr hlocks () rfl trivial (hP.sub [0] rfl) (hD.sub [0] (by decide) rfl) hS (Nat.le_of_ble_eq_true rfl) (Nat.le_of_ble_eq_true rfl) dX12_part_43
theorem iw_X12_findLists_X12 : ∀ w ∈ wsX120, w ∈ wsX12_findLists := by decide +kernel
set_option maxHeartbeats 4000000 in
set_option maxRecDepth 100000 in
theorem c_findLists (l : Launch) (D : va_G) (cy : Nat → ClassId) (mh : Nat) (mq : Nat → Nat) (sz : Nat) : Met l yX12_findLists wsX12_findLists ({ frames := 1, cells := 0, slots := 0, locals := 24 }) (wPre D cy [.ref mh] sz [(mc0 cy mh mq), (mc11 cy mh mq), (mc29 cy mh mq)]) (wQv D (fun _ : Unit => True) (fun _u : Unit => [(mc11 cy mh mq), ((mq 28), .inl (cy 0, 14641, .inl (upd (fun _ => 0) 0 0))), (mc0 cy mh mq)]) (va_A [(mc0 cy mh mq), (mc11 cy mh mq), (mc29 cy mh mq)] sz)) 0 0 (va_A [(mc0 cy mh mq), (mc11 cy mh mq), (mc29 cy mh mq)] sz) := by
  refine met_go (y := yX12_findLists) (ws := wsX12_findLists) (av := [.ref mh]) (cc := cX12_findLists) (maxL := 5) (ret := none) (Qc := fun A => wQv D (fun _ : Unit => True) (fun _u : Unit => [(mc11 cy mh mq), ((mq 28), .inl (cy 0, 14641, .inl (upd (fun _ => 0) 0 0))), (mc0 cy mh mq)]) A) (by decide) rfl (Nat.le_of_ble_eq_true rfl) ?_
  intro p e s m below meth c ls A hx hb hr hml hown hts hlocks hname hKX hP hD hA hS hl
  have hown : s.vm.findClass RX12 = some m.cls := hown
  have hl : lv_has ls 5 [(0, .ref mh)] := hl
  refine lv_iconst (v := 0) hx hb dX12_findLists_0 (by decide) ?_
  refine lv_istore_n (lv' := [(1, .int 0), (0, .ref mh)]) hx hb dX12_findLists_1 rfl hl (by decide) rfl (fun ls hl => ?_)
  refine lv_iload_n hx hb dX12_findLists_2 rfl (lv_at hl 0 rfl) ?_
  refine lv_aload_n hx hb dX12_findLists_3 rfl (lv_at hl 1 rfl) ?_
  refine va_get (D := D) (ci := 12) (v := .ref (mq 10)) (C := RX12) (T := TX12) (N := 55) hx hb hts iw_X12_findLists_X12 hown hKX.1 hP 0 rfl rfl 22 (by decide) (hts (.fieldLink RX12 58 "TrainFerryModel" "many" "[I") (by decide +kernel)) (fun _ h9 => h9) rfl dX12_findLists_4 ?_
  refine lv_iconst (v := 3) hx hb dX12_findLists_7 (by decide) ?_
  refine va_iald hx hb hKX.1 hP 1 0 rfl rfl (vind (by decide)) dX12_findLists_8 ?_
  refine lv_cst 0 rfl ?_
  refine lv_icmp_gt (tgt := 115) hx hb dX12_findLists_9 (by decide) (fun c9 => absurd c9 (by decide)) (fun _ => ?_)
  refine lv_iconst (v := 0) hx hb dX12_findLists_12 (by decide) ?_
  refine lv_istore_n (lv' := [(2, .int 0), (1, .int 0), (0, .ref mh)]) hx hb dX12_findLists_13 rfl hl (by decide) rfl (fun ls hl => ?_)
  refine lv_iload_n hx hb dX12_findLists_14 rfl (lv_at hl 0 rfl) ?_
  refine lv_aload_n hx hb dX12_findLists_15 rfl (lv_at hl 2 rfl) ?_
  refine va_get (D := D) (ci := 12) (v := .ref (mq 10)) (C := RX12) (T := TX12) (N := 55) hx hb hts iw_X12_findLists_X12 hown hKX.1 hP 0 rfl rfl 22 (by decide) (hts (.fieldLink RX12 58 "TrainFerryModel" "many" "[I") (by decide +kernel)) (fun _ h9 => h9) rfl dX12_findLists_16 ?_
  refine lv_iconst (v := 2) hx hb dX12_findLists_19 (by decide) ?_
  refine va_iald hx hb hKX.1 hP 1 0 rfl rfl (vind (by decide)) dX12_findLists_20 ?_
  refine lv_cst 0 rfl ?_
  refine lv_icmp_gt (tgt := 109) hx hb dX12_findLists_21 (by decide) (fun c9 => absurd c9 (by decide)) (fun _ => ?_)
  refine lv_iconst (v := 0) hx hb dX12_findLists_24 (by decide) ?_
  refine lv_istore_n (lv' := [(3, .int 0), (2, .int 0), (1, .int 0), (0, .ref mh)]) hx hb dX12_findLists_25 rfl hl (by decide) rfl (fun ls hl => ?_)
  refine lv_iload_n hx hb dX12_findLists_26 rfl (lv_at hl 0 rfl) ?_
  refine lv_aload_n hx hb dX12_findLists_27 rfl (lv_at hl 3 rfl) ?_
  refine va_get (D := D) (ci := 12) (v := .ref (mq 10)) (C := RX12) (T := TX12) (N := 55) hx hb hts iw_X12_findLists_X12 hown hKX.1 hP 0 rfl rfl 22 (by decide) (hts (.fieldLink RX12 58 "TrainFerryModel" "many" "[I") (by decide +kernel)) (fun _ h9 => h9) rfl dX12_findLists_28 ?_
  refine lv_iconst (v := 1) hx hb dX12_findLists_31 (by decide) ?_
  refine va_iald hx hb hKX.1 hP 1 0 rfl rfl (vind (by decide)) dX12_findLists_32 ?_
  refine lv_cst 0 rfl ?_
  refine lv_icmp_gt (tgt := 103) hx hb dX12_findLists_33 (by decide) (fun c9 => absurd c9 (by decide)) (fun _ => ?_)
  refine lv_iconst (v := 0) hx hb dX12_findLists_36 (by decide) ?_
  refine lv_istore (lv' := [(4, .int 0), (3, .int 0), (2, .int 0), (1, .int 0), (0, .ref mh)]) hx hb dX12_findLists_37 hl (by decide) rfl (fun ls hl => ?_)
  refine lv_iload hx hb dX12_findLists_39 (lv_at hl 0 rfl) ?_
  refine lv_aload_n hx hb dX12_findLists_41 rfl (lv_at hl 4 rfl) ?_
  refine va_get (D := D) (ci := 12) (v := .ref (mq 10)) (C := RX12) (T := TX12) (N := 55) hx hb hts iw_X12_findLists_X12 hown hKX.1 hP 0 rfl rfl 22 (by decide) (hts (.fieldLink RX12 58 "TrainFerryModel" "many" "[I") (by decide +kernel)) (fun _ h9 => h9) rfl dX12_findLists_42 ?_
  refine lv_iconst (v := 0) hx hb dX12_findLists_45 (by decide) ?_
  refine va_iald hx hb hKX.1 hP 1 0 rfl rfl (vind (by decide)) dX12_findLists_46 ?_
  refine lv_cst 0 rfl ?_
  refine lv_icmp_gt (tgt := 97) hx hb dX12_findLists_47 (by decide) (fun c9 => absurd c9 (by decide)) (fun _ => ?_)
  refine lv_aload_n hx hb dX12_findLists_50 rfl (lv_at hl 4 rfl) ?_
  refine va_get (D := D) (ci := 12) (v := .ref (mq 28)) (C := RX12) (T := TX12) (N := 55) hx hb hts iw_X12_findLists_X12 hown hKX.1 hP 0 rfl rfl 53 (by decide) (hts (.fieldLink RX12 116 "TrainFerryModel" "lists" "[I") (by decide +kernel)) (fun _ h9 => h9) rfl dX12_findLists_51 ?_
  refine lv_iload hx hb dX12_findLists_54 (lv_at hl 0 rfl) ?_
  refine lv_iload_n hx hb dX12_findLists_56 rfl (lv_at hl 1 rfl) ?_
  refine lv_iload_n hx hb dX12_findLists_57 rfl (lv_at hl 2 rfl) ?_
  refine lv_iload_n hx hb dX12_findLists_58 rfl (lv_at hl 3 rfl) ?_
  refine cl_i (wr := [(mc0 cy mh mq), (mc11 cy mh mq), (mc29 cy mh mq)]) (va_runS (As := [.int 0, .int 0, .int 0, .int 0]) (rest := [.ref (mq 28)]) ⟨hx, hb, hml, hown, hts⟩ (c_placeOf l D cy  _) (va_cwS 4 hts gX12_findLists_X12_placeOf rfl rfl rfl (by decide +kernel) ⟨(Nat.le_of_ble_eq_true rfl), (Nat.le_of_ble_eq_true rfl)⟩) (pre_S hKX hP hD [] rfl (by decide) rfl) rfl rfl hl.1 rfl (lv_room (Nat.le_of_ble_eq_true rfl)) dX12_findLists_59 ⟨(Nat.le_of_ble_eq_true rfl), (Nat.le_of_ble_eq_true rfl)⟩) hP hD hS hA [] [0, 1, 2] rfl rfl (by decide) (by decide) (fun u1 H locs _ hP hD hS => ?_)
  have hP : va_P D vwCl [(mc0 cy mh mq), (mc11 cy mh mq), (mc29 cy mh mq)] H := hP
  have hD : va_D A [(mc0 cy mh mq), (mc11 cy mh mq), (mc29 cy mh mq)] := hD
  refine lv_aload_n hx hb dX12_findLists_62 rfl (lv_at hl 4 rfl) ?_
  refine lv_iconst (v := 0) hx hb dX12_findLists_63 (by decide) ?_
  refine lv_iload hx hb dX12_findLists_64 (lv_at hl 0 rfl) ?_
  refine cl_i (wr := [(mc11 cy mh mq), (mc29 cy mh mq)]) (va_runV (As := [.int 0, .int 0]) (rest := [.int 0, .ref (mq 28)]) ⟨hx, hb, hml, hown, hts⟩ (c_part_0 l D cy mh mq _) (cwV 2 hts gX12_findLists_X12_part rfl rfl rfl (by decide +kernel) ⟨(Nat.le_of_ble_eq_true rfl), (Nat.le_of_ble_eq_true rfl)⟩) (pre_V hKX hP hD (ci := 12) (q0 := 0) rfl rfl [0] rfl (by decide) rfl) rfl rfl hl.1 rfl (lv_room (Nat.le_of_ble_eq_true rfl)) dX12_findLists_66 ⟨(Nat.le_of_ble_eq_true rfl), (Nat.le_of_ble_eq_true rfl)⟩) hP hD hS hA [0] [1, 2] rfl rfl (by decide) (by decide) (fun u2 H locs _ hP hD hS => ?_)
  have hP : va_P D vwCl [(mc11 cy mh mq), (mc29 cy mh mq), (mc0 cy mh mq)] H := hP
  have hD : va_D A [(mc11 cy mh mq), (mc29 cy mh mq), (mc0 cy mh mq)] := hD
  refine lv_aload_n hx hb dX12_findLists_69 rfl (lv_at hl 4 rfl) ?_
  refine lv_iconst (v := 1) hx hb dX12_findLists_70 (by decide) ?_
  refine lv_iload_n hx hb dX12_findLists_71 rfl (lv_at hl 1 rfl) ?_
  refine cl_i (wr := [(mc11 cy mh mq), (mc29 cy mh mq)]) (va_runV (As := [.int 1, .int 0]) (rest := [.int 0, .int 0, .ref (mq 28)]) ⟨hx, hb, hml, hown, hts⟩ (c_part_1 l D cy mh mq _) (cwV 2 hts gX12_findLists_X12_part rfl rfl rfl (by decide +kernel) ⟨(Nat.le_of_ble_eq_true rfl), (Nat.le_of_ble_eq_true rfl)⟩) (pre_V hKX hP hD (ci := 12) (q0 := 2) rfl rfl [2] rfl (by decide) rfl) rfl rfl hl.1 rfl (lv_room (Nat.le_of_ble_eq_true rfl)) dX12_findLists_72 ⟨(Nat.le_of_ble_eq_true rfl), (Nat.le_of_ble_eq_true rfl)⟩) hP hD hS hA [2] [0, 1] rfl rfl (by decide) (by decide) (fun u3 H locs _ hP hD hS => ?_)
  have hP : va_P D vwCl [(mc11 cy mh mq), (mc29 cy mh mq), (mc0 cy mh mq)] H := hP
  have hD : va_D A [(mc11 cy mh mq), (mc29 cy mh mq), (mc0 cy mh mq)] := hD
  refine lv_iadd hx hb dX12_findLists_75 ?_
  refine lv_cst 0 (by decide) ?_
  refine lv_aload_n hx hb dX12_findLists_76 rfl (lv_at hl 4 rfl) ?_
  refine lv_iconst (v := 2) hx hb dX12_findLists_77 (by decide) ?_
  refine lv_iload_n hx hb dX12_findLists_78 rfl (lv_at hl 2 rfl) ?_
  refine cl_i (wr := [(mc11 cy mh mq), (mc29 cy mh mq)]) (va_runV (As := [.int 2, .int 0]) (rest := [.int 0, .int 0, .ref (mq 28)]) ⟨hx, hb, hml, hown, hts⟩ (c_part_2 l D cy mh mq _) (cwV 2 hts gX12_findLists_X12_part rfl rfl rfl (by decide +kernel) ⟨(Nat.le_of_ble_eq_true rfl), (Nat.le_of_ble_eq_true rfl)⟩) (pre_V hKX hP hD (ci := 12) (q0 := 2) rfl rfl [2] rfl (by decide) rfl) rfl rfl hl.1 rfl (lv_room (Nat.le_of_ble_eq_true rfl)) dX12_findLists_79 ⟨(Nat.le_of_ble_eq_true rfl), (Nat.le_of_ble_eq_true rfl)⟩) hP hD hS hA [2] [0, 1] rfl rfl (by decide) (by decide) (fun u4 H locs _ hP hD hS => ?_)
  have hP : va_P D vwCl [(mc11 cy mh mq), (mc29 cy mh mq), (mc0 cy mh mq)] H := hP
  have hD : va_D A [(mc11 cy mh mq), (mc29 cy mh mq), (mc0 cy mh mq)] := hD
  refine lv_iadd hx hb dX12_findLists_82 ?_
  refine lv_cst 0 (by decide) ?_
  refine lv_aload_n hx hb dX12_findLists_83 rfl (lv_at hl 4 rfl) ?_
  refine lv_iconst (v := 3) hx hb dX12_findLists_84 (by decide) ?_
  refine lv_iload_n hx hb dX12_findLists_85 rfl (lv_at hl 3 rfl) ?_
  refine cl_i (wr := [(mc11 cy mh mq), (mc29 cy mh mq)]) (va_runV (As := [.int 3, .int 0]) (rest := [.int 0, .int 0, .ref (mq 28)]) ⟨hx, hb, hml, hown, hts⟩ (c_part_3 l D cy mh mq _) (cwV 2 hts gX12_findLists_X12_part rfl rfl rfl (by decide +kernel) ⟨(Nat.le_of_ble_eq_true rfl), (Nat.le_of_ble_eq_true rfl)⟩) (pre_V hKX hP hD (ci := 12) (q0 := 2) rfl rfl [2] rfl (by decide) rfl) rfl rfl hl.1 rfl (lv_room (Nat.le_of_ble_eq_true rfl)) dX12_findLists_86 ⟨(Nat.le_of_ble_eq_true rfl), (Nat.le_of_ble_eq_true rfl)⟩) hP hD hS hA [2] [0, 1] rfl rfl (by decide) (by decide) (fun u5 H locs _ hP hD hS => ?_)
  have hP : va_P D vwCl [(mc11 cy mh mq), (mc29 cy mh mq), (mc0 cy mh mq)] H := hP
  have hD : va_D A [(mc11 cy mh mq), (mc29 cy mh mq), (mc0 cy mh mq)] := hD
  refine lv_iadd hx hb dX12_findLists_89 ?_
  refine lv_cst 0 (by decide) ?_
  refine va_iast hx hb hKX.1 hP hD hS 1 0 rfl rfl (vind (by decide)) dX12_findLists_90 (fun H locs hP hD hS => ?_)
  have hP : va_P D vwCl [(mc11 cy mh mq), ((mq 28), .inl (cy 0, 14641, .inl (upd (fun _ => 0) 0 0))), (mc0 cy mh mq)] H := hP
  have hD : va_D A [(mc11 cy mh mq), ((mq 28), .inl (cy 0, 14641, .inl (upd (fun _ => 0) 0 0))), (mc0 cy mh mq)] := hD
  refine lv_iinc (v := 1) (lv' := [(4, .int 1), (3, .int 0), (2, .int 0), (1, .int 0), (0, .ref mh)]) hx hb dX12_findLists_91 hl (k := 0) rfl (by decide) (by decide) rfl (fun ls hl => ?_)
  refine lv_goto (tgt := 39) hx hb dX12_findLists_94 (by decide) ?_
  refine lv_iload hx hb dX12_findLists_39 (lv_at hl 0 rfl) ?_
  refine lv_aload_n hx hb dX12_findLists_41 rfl (lv_at hl 4 rfl) ?_
  refine va_get (D := D) (ci := 12) (v := .ref (mq 10)) (C := RX12) (T := TX12) (N := 55) hx hb hts iw_X12_findLists_X12 hown hKX.1 hP 2 rfl rfl 22 (by decide) (hts (.fieldLink RX12 58 "TrainFerryModel" "many" "[I") (by decide +kernel)) (fun _ h9 => h9) rfl dX12_findLists_42 ?_
  refine lv_iconst (v := 0) hx hb dX12_findLists_45 (by decide) ?_
  refine va_iald hx hb hKX.1 hP 0 0 rfl rfl (vind (by decide)) dX12_findLists_46 ?_
  refine lv_cst 0 rfl ?_
  refine lv_icmp_gt (tgt := 97) hx hb dX12_findLists_47 (by decide) (fun _ => ?_) (fun c9 => absurd (by decide) c9)
  refine lv_iinc (v := 1) (lv' := [(3, .int 1), (4, .int 1), (2, .int 0), (1, .int 0), (0, .ref mh)]) hx hb dX12_findLists_97 hl (k := 1) rfl (by decide) (by decide) rfl (fun ls hl => ?_)
  refine lv_goto (tgt := 26) hx hb dX12_findLists_100 (by decide) ?_
  refine lv_iload_n hx hb dX12_findLists_26 rfl (lv_at hl 0 rfl) ?_
  refine lv_aload_n hx hb dX12_findLists_27 rfl (lv_at hl 4 rfl) ?_
  refine va_get (D := D) (ci := 12) (v := .ref (mq 10)) (C := RX12) (T := TX12) (N := 55) hx hb hts iw_X12_findLists_X12 hown hKX.1 hP 2 rfl rfl 22 (by decide) (hts (.fieldLink RX12 58 "TrainFerryModel" "many" "[I") (by decide +kernel)) (fun _ h9 => h9) rfl dX12_findLists_28 ?_
  refine lv_iconst (v := 1) hx hb dX12_findLists_31 (by decide) ?_
  refine va_iald hx hb hKX.1 hP 0 0 rfl rfl (vind (by decide)) dX12_findLists_32 ?_
  refine lv_cst 0 rfl ?_
  refine lv_icmp_gt (tgt := 103) hx hb dX12_findLists_33 (by decide) (fun _ => ?_) (fun c9 => absurd (by decide) c9)
  refine lv_iinc (v := 1) (lv' := [(2, .int 1), (3, .int 1), (4, .int 1), (1, .int 0), (0, .ref mh)]) hx hb dX12_findLists_103 hl (k := 2) rfl (by decide) (by decide) rfl (fun ls hl => ?_)
  refine lv_goto (tgt := 14) hx hb dX12_findLists_106 (by decide) ?_
  refine lv_iload_n hx hb dX12_findLists_14 rfl (lv_at hl 0 rfl) ?_
  refine lv_aload_n hx hb dX12_findLists_15 rfl (lv_at hl 4 rfl) ?_
  refine va_get (D := D) (ci := 12) (v := .ref (mq 10)) (C := RX12) (T := TX12) (N := 55) hx hb hts iw_X12_findLists_X12 hown hKX.1 hP 2 rfl rfl 22 (by decide) (hts (.fieldLink RX12 58 "TrainFerryModel" "many" "[I") (by decide +kernel)) (fun _ h9 => h9) rfl dX12_findLists_16 ?_
  refine lv_iconst (v := 2) hx hb dX12_findLists_19 (by decide) ?_
  refine va_iald hx hb hKX.1 hP 0 0 rfl rfl (vind (by decide)) dX12_findLists_20 ?_
  refine lv_cst 0 rfl ?_
  refine lv_icmp_gt (tgt := 109) hx hb dX12_findLists_21 (by decide) (fun _ => ?_) (fun c9 => absurd (by decide) c9)
  refine lv_iinc (v := 1) (lv' := [(1, .int 1), (2, .int 1), (3, .int 1), (4, .int 1), (0, .ref mh)]) hx hb dX12_findLists_109 hl (k := 3) rfl (by decide) (by decide) rfl (fun ls hl => ?_)
  refine lv_goto (tgt := 2) hx hb dX12_findLists_112 (by decide) ?_
  refine lv_iload_n hx hb dX12_findLists_2 rfl (lv_at hl 0 rfl) ?_
  refine lv_aload_n hx hb dX12_findLists_3 rfl (lv_at hl 4 rfl) ?_
  refine va_get (D := D) (ci := 12) (v := .ref (mq 10)) (C := RX12) (T := TX12) (N := 55) hx hb hts iw_X12_findLists_X12 hown hKX.1 hP 2 rfl rfl 22 (by decide) (hts (.fieldLink RX12 58 "TrainFerryModel" "many" "[I") (by decide +kernel)) (fun _ h9 => h9) rfl dX12_findLists_4 ?_
  refine lv_iconst (v := 3) hx hb dX12_findLists_7 (by decide) ?_
  refine va_iald hx hb hKX.1 hP 0 0 rfl rfl (vind (by decide)) dX12_findLists_8 ?_
  refine lv_cst 0 rfl ?_
  refine lv_icmp_gt (tgt := 115) hx hb dX12_findLists_9 (by decide) (fun _ => ?_) (fun c9 => absurd (by decide) c9)
  exact en_v hx hb hr hlocks () trivial (hP.sub [0, 1, 2] rfl) (hD.sub [0, 1, 2] (by decide) rfl) hS (Nat.le_of_ble_eq_true rfl) (Nat.le_of_ble_eq_true rfl) dX12_findLists_115
theorem iw_X12_canAll_X12 : ∀ w ∈ wsX120, w ∈ wsX12_canAll := by decide +kernel
set_option maxHeartbeats 4000000 in
set_option maxRecDepth 100000 in
theorem c_canAll (l : Launch) (D : va_G) (cy : Nat → ClassId) (mh : Nat) (mq : Nat → Nat) (cg : Nat → Int32) (x : Int32) (sz : Nat) : Met l yX12_canAll wsX12_canAll ({ frames := 1, cells := 0, slots := 0, locals := 23 }) (wPre D cy [.ref mh, .int x] sz [(mc0 cy mh mq), (mc11 cy mh mq), ((mq 27), .inl (cy 2, 14641, .inl cg))]) (wQi D 1 (fun _ : Unit => True) (fun _u : Unit => [(mc0 cy mh mq), (mc11 cy mh mq), ((mq 27), .inl (cy 2, 14641, .inl (upd cg 0 1)))]) (va_A [(mc0 cy mh mq), (mc11 cy mh mq), ((mq 27), .inl (cy 2, 14641, .inl cg))] sz)) 0 0 (va_A [(mc0 cy mh mq), (mc11 cy mh mq), ((mq 27), .inl (cy 2, 14641, .inl cg))] sz) := by
  refine met_go (y := yX12_canAll) (ws := wsX12_canAll) (av := [.ref mh, .int x]) (cc := cX12_canAll) (maxL := 7) (ret := (some .boolean)) (Qc := fun A => wQi D 1 (fun _ : Unit => True) (fun _u : Unit => [(mc0 cy mh mq), (mc11 cy mh mq), ((mq 27), .inl (cy 2, 14641, .inl (upd cg 0 1)))]) A) (by decide) rfl (Nat.le_of_ble_eq_true rfl) ?_
  intro p e s m below meth c ls A hx hb hr hml hown hts hlocks hname hKX hP hD hA hS hl
  have hown : s.vm.findClass RX12 = some m.cls := hown
  have hl : lv_has ls 7 [(0, .ref mh), (1, .int x)] := hl
  refine lv_iconst (v := 0) hx hb dX12_canAll_0 (by decide) ?_
  refine lv_istore_n (lv' := [(2, .int 0), (0, .ref mh), (1, .int x)]) hx hb dX12_canAll_1 rfl hl (by decide) rfl (fun ls hl => ?_)
  refine lv_iload_n hx hb dX12_canAll_2 rfl (lv_at hl 0 rfl) ?_
  refine lv_aload_n hx hb dX12_canAll_3 rfl (lv_at hl 1 rfl) ?_
  refine va_get (D := D) (ci := 12) (v := .ref (mq 10)) (C := RX12) (T := TX12) (N := 55) hx hb hts iw_X12_canAll_X12 hown hKX.1 hP 0 rfl rfl 22 (by decide) (hts (.fieldLink RX12 58 "TrainFerryModel" "many" "[I") (by decide +kernel)) (fun _ h9 => h9) rfl dX12_canAll_4 ?_
  refine lv_iconst (v := 3) hx hb dX12_canAll_7 (by decide) ?_
  refine va_iald hx hb hKX.1 hP 1 0 rfl rfl (vind (by decide)) dX12_canAll_8 ?_
  refine lv_cst 0 rfl ?_
  refine lv_icmp_gt (tgt := 174) hx hb dX12_canAll_9 (by decide) (fun c9 => absurd c9 (by decide)) (fun _ => ?_)
  refine lv_iconst (v := 0) hx hb dX12_canAll_12 (by decide) ?_
  refine lv_istore_n (lv' := [(3, .int 0), (2, .int 0), (0, .ref mh), (1, .int x)]) hx hb dX12_canAll_13 rfl hl (by decide) rfl (fun ls hl => ?_)
  refine lv_iload_n hx hb dX12_canAll_14 rfl (lv_at hl 0 rfl) ?_
  refine lv_aload_n hx hb dX12_canAll_15 rfl (lv_at hl 2 rfl) ?_
  refine va_get (D := D) (ci := 12) (v := .ref (mq 10)) (C := RX12) (T := TX12) (N := 55) hx hb hts iw_X12_canAll_X12 hown hKX.1 hP 0 rfl rfl 22 (by decide) (hts (.fieldLink RX12 58 "TrainFerryModel" "many" "[I") (by decide +kernel)) (fun _ h9 => h9) rfl dX12_canAll_16 ?_
  refine lv_iconst (v := 2) hx hb dX12_canAll_19 (by decide) ?_
  refine va_iald hx hb hKX.1 hP 1 0 rfl rfl (vind (by decide)) dX12_canAll_20 ?_
  refine lv_cst 0 rfl ?_
  refine lv_icmp_gt (tgt := 168) hx hb dX12_canAll_21 (by decide) (fun c9 => absurd c9 (by decide)) (fun _ => ?_)
  refine lv_iconst (v := 0) hx hb dX12_canAll_24 (by decide) ?_
  refine lv_istore (lv' := [(4, .int 0), (3, .int 0), (2, .int 0), (0, .ref mh), (1, .int x)]) hx hb dX12_canAll_25 hl (by decide) rfl (fun ls hl => ?_)
  refine lv_iload hx hb dX12_canAll_27 (lv_at hl 0 rfl) ?_
  refine lv_aload_n hx hb dX12_canAll_29 rfl (lv_at hl 3 rfl) ?_
  refine va_get (D := D) (ci := 12) (v := .ref (mq 10)) (C := RX12) (T := TX12) (N := 55) hx hb hts iw_X12_canAll_X12 hown hKX.1 hP 0 rfl rfl 22 (by decide) (hts (.fieldLink RX12 58 "TrainFerryModel" "many" "[I") (by decide +kernel)) (fun _ h9 => h9) rfl dX12_canAll_30 ?_
  refine lv_iconst (v := 1) hx hb dX12_canAll_33 (by decide) ?_
  refine va_iald hx hb hKX.1 hP 1 0 rfl rfl (vind (by decide)) dX12_canAll_34 ?_
  refine lv_cst 0 rfl ?_
  refine lv_icmp_gt (tgt := 162) hx hb dX12_canAll_35 (by decide) (fun c9 => absurd c9 (by decide)) (fun _ => ?_)
  refine lv_iconst (v := 0) hx hb dX12_canAll_38 (by decide) ?_
  refine lv_istore (lv' := [(5, .int 0), (4, .int 0), (3, .int 0), (2, .int 0), (0, .ref mh), (1, .int x)]) hx hb dX12_canAll_39 hl (by decide) rfl (fun ls hl => ?_)
  refine lv_iload hx hb dX12_canAll_41 (lv_at hl 0 rfl) ?_
  refine lv_aload_n hx hb dX12_canAll_43 rfl (lv_at hl 4 rfl) ?_
  refine va_get (D := D) (ci := 12) (v := .ref (mq 10)) (C := RX12) (T := TX12) (N := 55) hx hb hts iw_X12_canAll_X12 hown hKX.1 hP 0 rfl rfl 22 (by decide) (hts (.fieldLink RX12 58 "TrainFerryModel" "many" "[I") (by decide +kernel)) (fun _ h9 => h9) rfl dX12_canAll_44 ?_
  refine lv_iconst (v := 0) hx hb dX12_canAll_47 (by decide) ?_
  refine va_iald hx hb hKX.1 hP 1 0 rfl rfl (vind (by decide)) dX12_canAll_48 ?_
  refine lv_cst 0 rfl ?_
  refine lv_icmp_gt (tgt := 156) hx hb dX12_canAll_49 (by decide) (fun c9 => absurd c9 (by decide)) (fun _ => ?_)
  refine lv_iload hx hb dX12_canAll_52 (lv_at hl 0 rfl) ?_
  refine lv_iload hx hb dX12_canAll_54 (lv_at hl 1 rfl) ?_
  refine lv_iload_n hx hb dX12_canAll_56 rfl (lv_at hl 2 rfl) ?_
  refine lv_iload_n hx hb dX12_canAll_57 rfl (lv_at hl 3 rfl) ?_
  refine cl_i (wr := [(mc0 cy mh mq), (mc11 cy mh mq), ((mq 27), .inl (cy 2, 14641, .inl cg))]) (va_runS (As := [.int 0, .int 0, .int 0, .int 0]) (rest := []) ⟨hx, hb, hml, hown, hts⟩ (c_placeOf l D cy  _) (va_cwS 4 hts gX12_canAll_X12_placeOf rfl rfl rfl (by decide +kernel) ⟨(Nat.le_of_ble_eq_true rfl), (Nat.le_of_ble_eq_true rfl)⟩) (pre_S hKX hP hD [] rfl (by decide) rfl) rfl rfl hl.1 rfl (lv_room (Nat.le_of_ble_eq_true rfl)) dX12_canAll_58 ⟨(Nat.le_of_ble_eq_true rfl), (Nat.le_of_ble_eq_true rfl)⟩) hP hD hS hA [] [0, 1, 2] rfl rfl (by decide) (by decide) (fun u1 H locs _ hP hD hS => ?_)
  have hP : va_P D vwCl [(mc0 cy mh mq), (mc11 cy mh mq), ((mq 27), .inl (cy 2, 14641, .inl cg))] H := hP
  have hD : va_D A [(mc0 cy mh mq), (mc11 cy mh mq), ((mq 27), .inl (cy 2, 14641, .inl cg))] := hD
  refine lv_istore (lv' := [(6, .int 0), (5, .int 0), (4, .int 0), (3, .int 0), (2, .int 0), (0, .ref mh), (1, .int x)]) hx hb dX12_canAll_61 hl (by decide) rfl (fun ls hl => ?_)
  refine lv_aload_n hx hb dX12_canAll_63 rfl (lv_at hl 5 rfl) ?_
  refine va_get (D := D) (ci := 12) (v := .ref (mq 27)) (C := RX12) (T := TX12) (N := 55) hx hb hts iw_X12_canAll_X12 hown hKX.1 hP 0 rfl rfl 52 (by decide) (hts (.fieldLink RX12 113 "TrainFerryModel" "canGo" "[Z") (by decide +kernel)) (fun _ h9 => h9) rfl dX12_canAll_64 ?_
  refine lv_iload hx hb dX12_canAll_67 (lv_at hl 0 rfl) ?_
  refine lv_iload hx hb dX12_canAll_69 (lv_at hl 0 rfl) ?_
  refine lv_if_eq (tgt := 144) hx hb dX12_canAll_71 (by decide) (fun _ => ?_) (fun c9 => absurd (by decide) c9)
  refine lv_iconst (v := 1) hx hb dX12_canAll_144 (by decide) ?_
  refine lv_goto (tgt := 149) hx hb dX12_canAll_145 (by decide) ?_
  refine va_zast hx hb hKX.1 hP hD hS 2 2 rfl rfl (vind (by decide)) dX12_canAll_149 (fun H locs hP hD hS => ?_)
  have hP : va_P D vwCl [(mc0 cy mh mq), (mc11 cy mh mq), ((mq 27), .inl (cy 2, 14641, .inl (upd cg 0 1)))] H := hP
  have hD : va_D A [(mc0 cy mh mq), (mc11 cy mh mq), ((mq 27), .inl (cy 2, 14641, .inl (upd cg 0 1)))] := hD
  refine lv_iinc (v := 1) (lv' := [(5, .int 1), (6, .int 0), (4, .int 0), (3, .int 0), (2, .int 0), (0, .ref mh), (1, .int x)]) hx hb dX12_canAll_150 hl (k := 1) rfl (by decide) (by decide) rfl (fun ls hl => ?_)
  refine lv_goto (tgt := 41) hx hb dX12_canAll_153 (by decide) ?_
  refine lv_iload hx hb dX12_canAll_41 (lv_at hl 0 rfl) ?_
  refine lv_aload_n hx hb dX12_canAll_43 rfl (lv_at hl 5 rfl) ?_
  refine va_get (D := D) (ci := 12) (v := .ref (mq 10)) (C := RX12) (T := TX12) (N := 55) hx hb hts iw_X12_canAll_X12 hown hKX.1 hP 0 rfl rfl 22 (by decide) (hts (.fieldLink RX12 58 "TrainFerryModel" "many" "[I") (by decide +kernel)) (fun _ h9 => h9) rfl dX12_canAll_44 ?_
  refine lv_iconst (v := 0) hx hb dX12_canAll_47 (by decide) ?_
  refine va_iald hx hb hKX.1 hP 1 0 rfl rfl (vind (by decide)) dX12_canAll_48 ?_
  refine lv_cst 0 rfl ?_
  refine lv_icmp_gt (tgt := 156) hx hb dX12_canAll_49 (by decide) (fun _ => ?_) (fun c9 => absurd (by decide) c9)
  refine lv_iinc (v := 1) (lv' := [(4, .int 1), (5, .int 1), (6, .int 0), (3, .int 0), (2, .int 0), (0, .ref mh), (1, .int x)]) hx hb dX12_canAll_156 hl (k := 2) rfl (by decide) (by decide) rfl (fun ls hl => ?_)
  refine lv_goto (tgt := 27) hx hb dX12_canAll_159 (by decide) ?_
  refine lv_iload hx hb dX12_canAll_27 (lv_at hl 0 rfl) ?_
  refine lv_aload_n hx hb dX12_canAll_29 rfl (lv_at hl 5 rfl) ?_
  refine va_get (D := D) (ci := 12) (v := .ref (mq 10)) (C := RX12) (T := TX12) (N := 55) hx hb hts iw_X12_canAll_X12 hown hKX.1 hP 0 rfl rfl 22 (by decide) (hts (.fieldLink RX12 58 "TrainFerryModel" "many" "[I") (by decide +kernel)) (fun _ h9 => h9) rfl dX12_canAll_30 ?_
  refine lv_iconst (v := 1) hx hb dX12_canAll_33 (by decide) ?_
  refine va_iald hx hb hKX.1 hP 1 0 rfl rfl (vind (by decide)) dX12_canAll_34 ?_
  refine lv_cst 0 rfl ?_
  refine lv_icmp_gt (tgt := 162) hx hb dX12_canAll_35 (by decide) (fun _ => ?_) (fun c9 => absurd (by decide) c9)
  refine lv_iinc (v := 1) (lv' := [(3, .int 1), (4, .int 1), (5, .int 1), (6, .int 0), (2, .int 0), (0, .ref mh), (1, .int x)]) hx hb dX12_canAll_162 hl (k := 3) rfl (by decide) (by decide) rfl (fun ls hl => ?_)
  refine lv_goto (tgt := 14) hx hb dX12_canAll_165 (by decide) ?_
  refine lv_iload_n hx hb dX12_canAll_14 rfl (lv_at hl 0 rfl) ?_
  refine lv_aload_n hx hb dX12_canAll_15 rfl (lv_at hl 5 rfl) ?_
  refine va_get (D := D) (ci := 12) (v := .ref (mq 10)) (C := RX12) (T := TX12) (N := 55) hx hb hts iw_X12_canAll_X12 hown hKX.1 hP 0 rfl rfl 22 (by decide) (hts (.fieldLink RX12 58 "TrainFerryModel" "many" "[I") (by decide +kernel)) (fun _ h9 => h9) rfl dX12_canAll_16 ?_
  refine lv_iconst (v := 2) hx hb dX12_canAll_19 (by decide) ?_
  refine va_iald hx hb hKX.1 hP 1 0 rfl rfl (vind (by decide)) dX12_canAll_20 ?_
  refine lv_cst 0 rfl ?_
  refine lv_icmp_gt (tgt := 168) hx hb dX12_canAll_21 (by decide) (fun _ => ?_) (fun c9 => absurd (by decide) c9)
  refine lv_iinc (v := 1) (lv' := [(2, .int 1), (3, .int 1), (4, .int 1), (5, .int 1), (6, .int 0), (0, .ref mh), (1, .int x)]) hx hb dX12_canAll_168 hl (k := 4) rfl (by decide) (by decide) rfl (fun ls hl => ?_)
  refine lv_goto (tgt := 2) hx hb dX12_canAll_171 (by decide) ?_
  refine lv_iload_n hx hb dX12_canAll_2 rfl (lv_at hl 0 rfl) ?_
  refine lv_aload_n hx hb dX12_canAll_3 rfl (lv_at hl 5 rfl) ?_
  refine va_get (D := D) (ci := 12) (v := .ref (mq 10)) (C := RX12) (T := TX12) (N := 55) hx hb hts iw_X12_canAll_X12 hown hKX.1 hP 0 rfl rfl 22 (by decide) (hts (.fieldLink RX12 58 "TrainFerryModel" "many" "[I") (by decide +kernel)) (fun _ h9 => h9) rfl dX12_canAll_4 ?_
  refine lv_iconst (v := 3) hx hb dX12_canAll_7 (by decide) ?_
  refine va_iald hx hb hKX.1 hP 1 0 rfl rfl (vind (by decide)) dX12_canAll_8 ?_
  refine lv_cst 0 rfl ?_
  refine lv_icmp_gt (tgt := 174) hx hb dX12_canAll_9 (by decide) (fun _ => ?_) (fun c9 => absurd (by decide) c9)
  refine lv_aload_n hx hb dX12_canAll_174 rfl (lv_at hl 5 rfl) ?_
  refine va_get (D := D) (ci := 12) (v := .ref (mq 27)) (C := RX12) (T := TX12) (N := 55) hx hb hts iw_X12_canAll_X12 hown hKX.1 hP 0 rfl rfl 52 (by decide) (hts (.fieldLink RX12 113 "TrainFerryModel" "canGo" "[Z") (by decide +kernel)) (fun _ h9 => h9) rfl dX12_canAll_175 ?_
  refine lv_aload_n hx hb dX12_canAll_178 rfl (lv_at hl 5 rfl) ?_
  refine va_get (D := D) (ci := 12) (v := .ref (mq 10)) (C := RX12) (T := TX12) (N := 55) hx hb hts iw_X12_canAll_X12 hown hKX.1 hP 0 rfl rfl 22 (by decide) (hts (.fieldLink RX12 58 "TrainFerryModel" "many" "[I") (by decide +kernel)) (fun _ h9 => h9) rfl dX12_canAll_179 ?_
  refine lv_iconst (v := 0) hx hb dX12_canAll_182 (by decide) ?_
  refine va_iald hx hb hKX.1 hP 1 0 rfl rfl (vind (by decide)) dX12_canAll_183 ?_
  refine lv_cst 0 rfl ?_
  refine lv_aload_n hx hb dX12_canAll_184 rfl (lv_at hl 5 rfl) ?_
  refine va_get (D := D) (ci := 12) (v := .ref (mq 10)) (C := RX12) (T := TX12) (N := 55) hx hb hts iw_X12_canAll_X12 hown hKX.1 hP 0 rfl rfl 22 (by decide) (hts (.fieldLink RX12 58 "TrainFerryModel" "many" "[I") (by decide +kernel)) (fun _ h9 => h9) rfl dX12_canAll_185 ?_
  refine lv_iconst (v := 1) hx hb dX12_canAll_188 (by decide) ?_
  refine va_iald hx hb hKX.1 hP 1 0 rfl rfl (vind (by decide)) dX12_canAll_189 ?_
  refine lv_cst 0 rfl ?_
  refine lv_aload_n hx hb dX12_canAll_190 rfl (lv_at hl 5 rfl) ?_
  refine va_get (D := D) (ci := 12) (v := .ref (mq 10)) (C := RX12) (T := TX12) (N := 55) hx hb hts iw_X12_canAll_X12 hown hKX.1 hP 0 rfl rfl 22 (by decide) (hts (.fieldLink RX12 58 "TrainFerryModel" "many" "[I") (by decide +kernel)) (fun _ h9 => h9) rfl dX12_canAll_191 ?_
  refine lv_iconst (v := 2) hx hb dX12_canAll_194 (by decide) ?_
  refine va_iald hx hb hKX.1 hP 1 0 rfl rfl (vind (by decide)) dX12_canAll_195 ?_
  refine lv_cst 0 rfl ?_
  refine lv_aload_n hx hb dX12_canAll_196 rfl (lv_at hl 5 rfl) ?_
  refine va_get (D := D) (ci := 12) (v := .ref (mq 10)) (C := RX12) (T := TX12) (N := 55) hx hb hts iw_X12_canAll_X12 hown hKX.1 hP 0 rfl rfl 22 (by decide) (hts (.fieldLink RX12 58 "TrainFerryModel" "many" "[I") (by decide +kernel)) (fun _ h9 => h9) rfl dX12_canAll_197 ?_
  refine lv_iconst (v := 3) hx hb dX12_canAll_200 (by decide) ?_
  refine va_iald hx hb hKX.1 hP 1 0 rfl rfl (vind (by decide)) dX12_canAll_201 ?_
  refine lv_cst 0 rfl ?_
  refine cl_i (wr := [(mc0 cy mh mq), (mc11 cy mh mq), ((mq 27), .inl (cy 2, 14641, .inl (upd cg 0 1)))]) (va_runS (As := [.int 0, .int 0, .int 0, .int 0]) (rest := [.ref (mq 27)]) ⟨hx, hb, hml, hown, hts⟩ (c_placeOf l D cy  _) (va_cwS 4 hts gX12_canAll_X12_placeOf rfl rfl rfl (by decide +kernel) ⟨(Nat.le_of_ble_eq_true rfl), (Nat.le_of_ble_eq_true rfl)⟩) (pre_S hKX hP hD [] rfl (by decide) rfl) rfl rfl hl.1 rfl (lv_room (Nat.le_of_ble_eq_true rfl)) dX12_canAll_202 ⟨(Nat.le_of_ble_eq_true rfl), (Nat.le_of_ble_eq_true rfl)⟩) hP hD hS hA [] [0, 1, 2] rfl rfl (by decide) (by decide) (fun u2 H locs _ hP hD hS => ?_)
  have hP : va_P D vwCl [(mc0 cy mh mq), (mc11 cy mh mq), ((mq 27), .inl (cy 2, 14641, .inl (upd cg 0 1)))] H := hP
  have hD : va_D A [(mc0 cy mh mq), (mc11 cy mh mq), ((mq 27), .inl (cy 2, 14641, .inl (upd cg 0 1)))] := hD
  refine va_zald hx hb hKX.1 hP 2 2 rfl rfl (vind (by decide)) dX12_canAll_205 ?_
  refine lv_cst 1 rfl ?_
  exact en_z hx hb hr hlocks rfl () rfl trivial (hP.sub [0, 1, 2] rfl) (hD.sub [0, 1, 2] (by decide) rfl) hS (Nat.le_of_ble_eq_true rfl) (Nat.le_of_ble_eq_true rfl) dX12_canAll_206
theorem iw_X12_leastLimit_X12 : ∀ w ∈ wsX120, w ∈ wsX12_leastLimit := by decide +kernel
set_option maxHeartbeats 4000000 in
set_option maxRecDepth 100000 in
theorem c_leastLimit (l : Launch) (D : va_G) (cy : Nat → ClassId) (mh : Nat) (mq : Nat → Nat) (sz : Nat) : Met l yX12_leastLimit wsX12_leastLimit ({ frames := 2, cells := 0, slots := 0, locals := 49 }) (wPre D cy [.ref mh] sz [(mc0 cy mh mq), (mc11 cy mh mq), (mc29 cy mh mq), (mc28 cy mh mq)]) (wQi D 0 (fun _ : Unit => True) (fun _u : Unit => []) (va_A [(mc0 cy mh mq), (mc11 cy mh mq), (mc29 cy mh mq), (mc28 cy mh mq)] sz)) 0 0 (va_A [(mc0 cy mh mq), (mc11 cy mh mq), (mc29 cy mh mq), (mc28 cy mh mq)] sz) := by
  refine met_go (y := yX12_leastLimit) (ws := wsX12_leastLimit) (av := [.ref mh]) (cc := cX12_leastLimit) (maxL := 4) (ret := (some .int)) (Qc := fun A => wQi D 0 (fun _ : Unit => True) (fun _u : Unit => []) A) (by decide) rfl (Nat.le_of_ble_eq_true rfl) ?_
  intro p e s m below meth c ls A hx hb hr hml hown hts hlocks hname hKX hP hD hA hS hl
  have hown : s.vm.findClass RX12 = some m.cls := hown
  have hl : lv_has ls 4 [(0, .ref mh)] := hl
  refine lv_aload_n hx hb dX12_leastLimit_0 rfl (lv_at hl 0 rfl) ?_
  refine cl_v (wr := [(mc28 cy mh mq)]) (va_runV (As := []) (rest := []) ⟨hx, hb, hml, hown, hts⟩ (c_findLists l D cy mh mq _) (cwV 0 hts gX12_leastLimit_X12_findLists rfl rfl rfl (by decide +kernel) ⟨(Nat.le_of_ble_eq_true rfl), (Nat.le_of_ble_eq_true rfl)⟩) (pre_V hKX hP hD (ci := 12) (q0 := 0) rfl rfl [0, 1, 2] rfl (by decide) rfl) rfl rfl hl.1 rfl (lv_room (Nat.le_of_ble_eq_true rfl)) dX12_leastLimit_1 ⟨(Nat.le_of_ble_eq_true rfl), (Nat.le_of_ble_eq_true rfl)⟩) hP hD hS hA [0, 1, 2] [3] rfl rfl (by decide) (by decide) (fun u1 H locs _ hP hD hS => ?_)
  have hP : va_P D vwCl [(mc28 cy mh mq), (mc11 cy mh mq), ((mq 28), .inl (cy 0, 14641, .inl (upd (fun _ => 0) 0 0))), (mc0 cy mh mq)] H := hP
  have hD : va_D A [(mc28 cy mh mq), (mc11 cy mh mq), ((mq 28), .inl (cy 0, 14641, .inl (upd (fun _ => 0) 0 0))), (mc0 cy mh mq)] := hD
  refine lv_aload_n hx hb dX12_leastLimit_4 rfl (lv_at hl 0 rfl) ?_
  refine lv_aload_n hx hb dX12_leastLimit_5 rfl (lv_at hl 0 rfl) ?_
  refine va_get (D := D) (ci := 12) (v := .int 200) (C := RX12) (T := TX12) (N := 55) hx hb hts iw_X12_leastLimit_X12 hown hKX.1 hP 3 rfl rfl 2 (by decide) (hts (.fieldLink RX12 16 "TrainFerryModel" "limit" "I") (by decide +kernel)) (fun _ h9 => h9) rfl dX12_leastLimit_6 ?_
  refine cl_i (wr := [((mq 28), .inl (cy 0, 14641, .inl (upd (fun _ => 0) 0 0)))]) (va_runV (As := [.int 200]) (rest := []) ⟨hx, hb, hml, hown, hts⟩ (c_canAll l D cy mh mq (fun _ => 0) 200 _) (cwV 1 hts gX12_leastLimit_X12_canAll rfl rfl rfl (by decide +kernel) ⟨(Nat.le_of_ble_eq_true rfl), (Nat.le_of_ble_eq_true rfl)⟩) (pre_V hKX hP hD (ci := 12) (q0 := 3) rfl rfl [3, 1, 0] rfl (by decide) rfl) rfl rfl hl.1 rfl (lv_room (Nat.le_of_ble_eq_true rfl)) dX12_leastLimit_9 ⟨(Nat.le_of_ble_eq_true rfl), (Nat.le_of_ble_eq_true rfl)⟩) hP hD hS hA [3, 1, 0] [2] rfl rfl (by decide) (by decide) (fun u2 H locs _ hP hD hS => ?_)
  have hP : va_P D vwCl [((mq 28), .inl (cy 0, 14641, .inl (upd (fun _ => 0) 0 0))), (mc0 cy mh mq), (mc11 cy mh mq), ((mq 27), .inl (cy 2, 14641, .inl (upd (fun _ => 0) 0 1)))] H := hP
  have hD : va_D A [((mq 28), .inl (cy 0, 14641, .inl (upd (fun _ => 0) 0 0))), (mc0 cy mh mq), (mc11 cy mh mq), ((mq 27), .inl (cy 2, 14641, .inl (upd (fun _ => 0) 0 1)))] := hD
  refine lv_if_ne (tgt := 17) hx hb dX12_leastLimit_12 (by decide) (fun _ => ?_) (fun c9 => absurd c9 (by decide))
  refine lv_iconst (v := 0) hx hb dX12_leastLimit_17 (by decide) ?_
  refine lv_istore_n (lv' := [(1, .int 0), (0, .ref mh)]) hx hb dX12_leastLimit_18 rfl hl (by decide) rfl (fun ls hl => ?_)
  refine lv_aload_n hx hb dX12_leastLimit_19 rfl (lv_at hl 1 rfl) ?_
  refine va_get (D := D) (ci := 12) (v := .int 200) (C := RX12) (T := TX12) (N := 55) hx hb hts iw_X12_leastLimit_X12 hown hKX.1 hP 1 rfl rfl 2 (by decide) (hts (.fieldLink RX12 16 "TrainFerryModel" "limit" "I") (by decide +kernel)) (fun _ h9 => h9) rfl dX12_leastLimit_20 ?_
  refine lv_istore_n (lv' := [(2, .int 200), (1, .int 0), (0, .ref mh)]) hx hb dX12_leastLimit_23 rfl hl (by decide) rfl (fun ls hl => ?_)
  refine lv_iload_n hx hb dX12_leastLimit_24 rfl (lv_at hl 1 rfl) ?_
  refine lv_iload_n hx hb dX12_leastLimit_25 rfl (lv_at hl 0 rfl) ?_
  refine lv_icmp_ge (tgt := 55) hx hb dX12_leastLimit_26 (by decide) (fun c9 => absurd c9 (by decide)) (fun _ => ?_)
  refine lv_iload_n hx hb dX12_leastLimit_29 rfl (lv_at hl 1 rfl) ?_
  refine lv_iload_n hx hb dX12_leastLimit_30 rfl (lv_at hl 0 rfl) ?_
  refine lv_iadd hx hb dX12_leastLimit_31 ?_
  refine lv_cst 200 (by decide) ?_
  refine lv_iconst (v := 2) hx hb dX12_leastLimit_32 (by decide) ?_
  refine lv_idiv hx hb dX12_leastLimit_33 (by decide) ?_
  refine lv_cst 100 (by decide) ?_
  refine lv_istore_n (lv' := [(3, .int 100), (2, .int 200), (1, .int 0), (0, .ref mh)]) hx hb dX12_leastLimit_34 rfl hl (by decide) rfl (fun ls hl => ?_)
  refine lv_aload_n hx hb dX12_leastLimit_35 rfl (lv_at hl 3 rfl) ?_
  refine lv_iload_n hx hb dX12_leastLimit_36 rfl (lv_at hl 0 rfl) ?_
  refine cl_i (wr := [((mq 28), .inl (cy 0, 14641, .inl (upd (fun _ => 0) 0 0)))]) (va_runV (As := [.int 100]) (rest := []) ⟨hx, hb, hml, hown, hts⟩ (c_canAll l D cy mh mq (upd (fun _ => 0) 0 1) 100 _) (cwV 1 hts gX12_leastLimit_X12_canAll rfl rfl rfl (by decide +kernel) ⟨(Nat.le_of_ble_eq_true rfl), (Nat.le_of_ble_eq_true rfl)⟩) (pre_V hKX hP hD (ci := 12) (q0 := 1) rfl rfl [1, 2, 3] rfl (by decide) rfl) rfl rfl hl.1 rfl (lv_room (Nat.le_of_ble_eq_true rfl)) dX12_leastLimit_37 ⟨(Nat.le_of_ble_eq_true rfl), (Nat.le_of_ble_eq_true rfl)⟩) hP hD hS hA [1, 2, 3] [0] rfl rfl (by decide) (by decide) (fun u3 H locs _ hP hD hS => ?_)
  have hP : va_P D vwCl [((mq 28), .inl (cy 0, 14641, .inl (upd (fun _ => 0) 0 0))), (mc0 cy mh mq), (mc11 cy mh mq), ((mq 27), .inl (cy 2, 14641, .inl (upd (upd (fun _ => 0) 0 1) 0 1)))] H := hP
  have hD : va_D A [((mq 28), .inl (cy 0, 14641, .inl (upd (fun _ => 0) 0 0))), (mc0 cy mh mq), (mc11 cy mh mq), ((mq 27), .inl (cy 2, 14641, .inl (upd (upd (fun _ => 0) 0 1) 0 1)))] := hD
  refine lv_if_eq (tgt := 48) hx hb dX12_leastLimit_40 (by decide) (fun c9 => absurd c9 (by decide)) (fun _ => ?_)
  refine lv_iload_n hx hb dX12_leastLimit_43 rfl (lv_at hl 0 rfl) ?_
  refine lv_istore_n (lv' := [(2, .int 100), (3, .int 100), (1, .int 0), (0, .ref mh)]) hx hb dX12_leastLimit_44 rfl hl (by decide) rfl (fun ls hl => ?_)
  refine lv_goto (tgt := 52) hx hb dX12_leastLimit_45 (by decide) ?_
  refine lv_goto (tgt := 24) hx hb dX12_leastLimit_52 (by decide) ?_
  refine lv_iload_n hx hb dX12_leastLimit_24 rfl (lv_at hl 2 rfl) ?_
  refine lv_iload_n hx hb dX12_leastLimit_25 rfl (lv_at hl 0 rfl) ?_
  refine lv_icmp_ge (tgt := 55) hx hb dX12_leastLimit_26 (by decide) (fun c9 => absurd c9 (by decide)) (fun _ => ?_)
  refine lv_iload_n hx hb dX12_leastLimit_29 rfl (lv_at hl 2 rfl) ?_
  refine lv_iload_n hx hb dX12_leastLimit_30 rfl (lv_at hl 0 rfl) ?_
  refine lv_iadd hx hb dX12_leastLimit_31 ?_
  refine lv_cst 100 (by decide) ?_
  refine lv_iconst (v := 2) hx hb dX12_leastLimit_32 (by decide) ?_
  refine lv_idiv hx hb dX12_leastLimit_33 (by decide) ?_
  refine lv_cst 50 (by decide) ?_
  refine lv_istore_n (lv' := [(3, .int 50), (2, .int 100), (1, .int 0), (0, .ref mh)]) hx hb dX12_leastLimit_34 rfl hl (by decide) rfl (fun ls hl => ?_)
  refine lv_aload_n hx hb dX12_leastLimit_35 rfl (lv_at hl 3 rfl) ?_
  refine lv_iload_n hx hb dX12_leastLimit_36 rfl (lv_at hl 0 rfl) ?_
  refine cl_i (wr := [((mq 28), .inl (cy 0, 14641, .inl (upd (fun _ => 0) 0 0)))]) (va_runV (As := [.int 50]) (rest := []) ⟨hx, hb, hml, hown, hts⟩ (c_canAll l D cy mh mq (upd (upd (fun _ => 0) 0 1) 0 1) 50 _) (cwV 1 hts gX12_leastLimit_X12_canAll rfl rfl rfl (by decide +kernel) ⟨(Nat.le_of_ble_eq_true rfl), (Nat.le_of_ble_eq_true rfl)⟩) (pre_V hKX hP hD (ci := 12) (q0 := 1) rfl rfl [1, 2, 3] rfl (by decide) rfl) rfl rfl hl.1 rfl (lv_room (Nat.le_of_ble_eq_true rfl)) dX12_leastLimit_37 ⟨(Nat.le_of_ble_eq_true rfl), (Nat.le_of_ble_eq_true rfl)⟩) hP hD hS hA [1, 2, 3] [0] rfl rfl (by decide) (by decide) (fun u4 H locs _ hP hD hS => ?_)
  have hP : va_P D vwCl [((mq 28), .inl (cy 0, 14641, .inl (upd (fun _ => 0) 0 0))), (mc0 cy mh mq), (mc11 cy mh mq), ((mq 27), .inl (cy 2, 14641, .inl (upd (upd (upd (fun _ => 0) 0 1) 0 1) 0 1)))] H := hP
  have hD : va_D A [((mq 28), .inl (cy 0, 14641, .inl (upd (fun _ => 0) 0 0))), (mc0 cy mh mq), (mc11 cy mh mq), ((mq 27), .inl (cy 2, 14641, .inl (upd (upd (upd (fun _ => 0) 0 1) 0 1) 0 1)))] := hD
  refine lv_if_eq (tgt := 48) hx hb dX12_leastLimit_40 (by decide) (fun c9 => absurd c9 (by decide)) (fun _ => ?_)
  refine lv_iload_n hx hb dX12_leastLimit_43 rfl (lv_at hl 0 rfl) ?_
  refine lv_istore_n (lv' := [(2, .int 50), (3, .int 50), (1, .int 0), (0, .ref mh)]) hx hb dX12_leastLimit_44 rfl hl (by decide) rfl (fun ls hl => ?_)
  refine lv_goto (tgt := 52) hx hb dX12_leastLimit_45 (by decide) ?_
  refine lv_goto (tgt := 24) hx hb dX12_leastLimit_52 (by decide) ?_
  refine lv_iload_n hx hb dX12_leastLimit_24 rfl (lv_at hl 2 rfl) ?_
  refine lv_iload_n hx hb dX12_leastLimit_25 rfl (lv_at hl 0 rfl) ?_
  refine lv_icmp_ge (tgt := 55) hx hb dX12_leastLimit_26 (by decide) (fun c9 => absurd c9 (by decide)) (fun _ => ?_)
  refine lv_iload_n hx hb dX12_leastLimit_29 rfl (lv_at hl 2 rfl) ?_
  refine lv_iload_n hx hb dX12_leastLimit_30 rfl (lv_at hl 0 rfl) ?_
  refine lv_iadd hx hb dX12_leastLimit_31 ?_
  refine lv_cst 50 (by decide) ?_
  refine lv_iconst (v := 2) hx hb dX12_leastLimit_32 (by decide) ?_
  refine lv_idiv hx hb dX12_leastLimit_33 (by decide) ?_
  refine lv_cst 25 (by decide) ?_
  refine lv_istore_n (lv' := [(3, .int 25), (2, .int 50), (1, .int 0), (0, .ref mh)]) hx hb dX12_leastLimit_34 rfl hl (by decide) rfl (fun ls hl => ?_)
  refine lv_aload_n hx hb dX12_leastLimit_35 rfl (lv_at hl 3 rfl) ?_
  refine lv_iload_n hx hb dX12_leastLimit_36 rfl (lv_at hl 0 rfl) ?_
  refine cl_i (wr := [((mq 28), .inl (cy 0, 14641, .inl (upd (fun _ => 0) 0 0)))]) (va_runV (As := [.int 25]) (rest := []) ⟨hx, hb, hml, hown, hts⟩ (c_canAll l D cy mh mq (upd (upd (upd (fun _ => 0) 0 1) 0 1) 0 1) 25 _) (cwV 1 hts gX12_leastLimit_X12_canAll rfl rfl rfl (by decide +kernel) ⟨(Nat.le_of_ble_eq_true rfl), (Nat.le_of_ble_eq_true rfl)⟩) (pre_V hKX hP hD (ci := 12) (q0 := 1) rfl rfl [1, 2, 3] rfl (by decide) rfl) rfl rfl hl.1 rfl (lv_room (Nat.le_of_ble_eq_true rfl)) dX12_leastLimit_37 ⟨(Nat.le_of_ble_eq_true rfl), (Nat.le_of_ble_eq_true rfl)⟩) hP hD hS hA [1, 2, 3] [0] rfl rfl (by decide) (by decide) (fun u5 H locs _ hP hD hS => ?_)
  have hP : va_P D vwCl [((mq 28), .inl (cy 0, 14641, .inl (upd (fun _ => 0) 0 0))), (mc0 cy mh mq), (mc11 cy mh mq), ((mq 27), .inl (cy 2, 14641, .inl (upd (upd (upd (upd (fun _ => 0) 0 1) 0 1) 0 1) 0 1)))] H := hP
  have hD : va_D A [((mq 28), .inl (cy 0, 14641, .inl (upd (fun _ => 0) 0 0))), (mc0 cy mh mq), (mc11 cy mh mq), ((mq 27), .inl (cy 2, 14641, .inl (upd (upd (upd (upd (fun _ => 0) 0 1) 0 1) 0 1) 0 1)))] := hD
  refine lv_if_eq (tgt := 48) hx hb dX12_leastLimit_40 (by decide) (fun c9 => absurd c9 (by decide)) (fun _ => ?_)
  refine lv_iload_n hx hb dX12_leastLimit_43 rfl (lv_at hl 0 rfl) ?_
  refine lv_istore_n (lv' := [(2, .int 25), (3, .int 25), (1, .int 0), (0, .ref mh)]) hx hb dX12_leastLimit_44 rfl hl (by decide) rfl (fun ls hl => ?_)
  refine lv_goto (tgt := 52) hx hb dX12_leastLimit_45 (by decide) ?_
  refine lv_goto (tgt := 24) hx hb dX12_leastLimit_52 (by decide) ?_
  refine lv_iload_n hx hb dX12_leastLimit_24 rfl (lv_at hl 2 rfl) ?_
  refine lv_iload_n hx hb dX12_leastLimit_25 rfl (lv_at hl 0 rfl) ?_
  refine lv_icmp_ge (tgt := 55) hx hb dX12_leastLimit_26 (by decide) (fun c9 => absurd c9 (by decide)) (fun _ => ?_)
  refine lv_iload_n hx hb dX12_leastLimit_29 rfl (lv_at hl 2 rfl) ?_
  refine lv_iload_n hx hb dX12_leastLimit_30 rfl (lv_at hl 0 rfl) ?_
  refine lv_iadd hx hb dX12_leastLimit_31 ?_
  refine lv_cst 25 (by decide) ?_
  refine lv_iconst (v := 2) hx hb dX12_leastLimit_32 (by decide) ?_
  refine lv_idiv hx hb dX12_leastLimit_33 (by decide) ?_
  refine lv_cst 12 (by decide) ?_
  refine lv_istore_n (lv' := [(3, .int 12), (2, .int 25), (1, .int 0), (0, .ref mh)]) hx hb dX12_leastLimit_34 rfl hl (by decide) rfl (fun ls hl => ?_)
  refine lv_aload_n hx hb dX12_leastLimit_35 rfl (lv_at hl 3 rfl) ?_
  refine lv_iload_n hx hb dX12_leastLimit_36 rfl (lv_at hl 0 rfl) ?_
  refine cl_i (wr := [((mq 28), .inl (cy 0, 14641, .inl (upd (fun _ => 0) 0 0)))]) (va_runV (As := [.int 12]) (rest := []) ⟨hx, hb, hml, hown, hts⟩ (c_canAll l D cy mh mq (upd (upd (upd (upd (fun _ => 0) 0 1) 0 1) 0 1) 0 1) 12 _) (cwV 1 hts gX12_leastLimit_X12_canAll rfl rfl rfl (by decide +kernel) ⟨(Nat.le_of_ble_eq_true rfl), (Nat.le_of_ble_eq_true rfl)⟩) (pre_V hKX hP hD (ci := 12) (q0 := 1) rfl rfl [1, 2, 3] rfl (by decide) rfl) rfl rfl hl.1 rfl (lv_room (Nat.le_of_ble_eq_true rfl)) dX12_leastLimit_37 ⟨(Nat.le_of_ble_eq_true rfl), (Nat.le_of_ble_eq_true rfl)⟩) hP hD hS hA [1, 2, 3] [0] rfl rfl (by decide) (by decide) (fun u6 H locs _ hP hD hS => ?_)
  have hP : va_P D vwCl [((mq 28), .inl (cy 0, 14641, .inl (upd (fun _ => 0) 0 0))), (mc0 cy mh mq), (mc11 cy mh mq), ((mq 27), .inl (cy 2, 14641, .inl (upd (upd (upd (upd (upd (fun _ => 0) 0 1) 0 1) 0 1) 0 1) 0 1)))] H := hP
  have hD : va_D A [((mq 28), .inl (cy 0, 14641, .inl (upd (fun _ => 0) 0 0))), (mc0 cy mh mq), (mc11 cy mh mq), ((mq 27), .inl (cy 2, 14641, .inl (upd (upd (upd (upd (upd (fun _ => 0) 0 1) 0 1) 0 1) 0 1) 0 1)))] := hD
  refine lv_if_eq (tgt := 48) hx hb dX12_leastLimit_40 (by decide) (fun c9 => absurd c9 (by decide)) (fun _ => ?_)
  refine lv_iload_n hx hb dX12_leastLimit_43 rfl (lv_at hl 0 rfl) ?_
  refine lv_istore_n (lv' := [(2, .int 12), (3, .int 12), (1, .int 0), (0, .ref mh)]) hx hb dX12_leastLimit_44 rfl hl (by decide) rfl (fun ls hl => ?_)
  refine lv_goto (tgt := 52) hx hb dX12_leastLimit_45 (by decide) ?_
  refine lv_goto (tgt := 24) hx hb dX12_leastLimit_52 (by decide) ?_
  refine lv_iload_n hx hb dX12_leastLimit_24 rfl (lv_at hl 2 rfl) ?_
  refine lv_iload_n hx hb dX12_leastLimit_25 rfl (lv_at hl 0 rfl) ?_
  refine lv_icmp_ge (tgt := 55) hx hb dX12_leastLimit_26 (by decide) (fun c9 => absurd c9 (by decide)) (fun _ => ?_)
  refine lv_iload_n hx hb dX12_leastLimit_29 rfl (lv_at hl 2 rfl) ?_
  refine lv_iload_n hx hb dX12_leastLimit_30 rfl (lv_at hl 0 rfl) ?_
  refine lv_iadd hx hb dX12_leastLimit_31 ?_
  refine lv_cst 12 (by decide) ?_
  refine lv_iconst (v := 2) hx hb dX12_leastLimit_32 (by decide) ?_
  refine lv_idiv hx hb dX12_leastLimit_33 (by decide) ?_
  refine lv_cst 6 (by decide) ?_
  refine lv_istore_n (lv' := [(3, .int 6), (2, .int 12), (1, .int 0), (0, .ref mh)]) hx hb dX12_leastLimit_34 rfl hl (by decide) rfl (fun ls hl => ?_)
  refine lv_aload_n hx hb dX12_leastLimit_35 rfl (lv_at hl 3 rfl) ?_
  refine lv_iload_n hx hb dX12_leastLimit_36 rfl (lv_at hl 0 rfl) ?_
  refine cl_i (wr := [((mq 28), .inl (cy 0, 14641, .inl (upd (fun _ => 0) 0 0)))]) (va_runV (As := [.int 6]) (rest := []) ⟨hx, hb, hml, hown, hts⟩ (c_canAll l D cy mh mq (upd (upd (upd (upd (upd (fun _ => 0) 0 1) 0 1) 0 1) 0 1) 0 1) 6 _) (cwV 1 hts gX12_leastLimit_X12_canAll rfl rfl rfl (by decide +kernel) ⟨(Nat.le_of_ble_eq_true rfl), (Nat.le_of_ble_eq_true rfl)⟩) (pre_V hKX hP hD (ci := 12) (q0 := 1) rfl rfl [1, 2, 3] rfl (by decide) rfl) rfl rfl hl.1 rfl (lv_room (Nat.le_of_ble_eq_true rfl)) dX12_leastLimit_37 ⟨(Nat.le_of_ble_eq_true rfl), (Nat.le_of_ble_eq_true rfl)⟩) hP hD hS hA [1, 2, 3] [0] rfl rfl (by decide) (by decide) (fun u7 H locs _ hP hD hS => ?_)
  have hP : va_P D vwCl [((mq 28), .inl (cy 0, 14641, .inl (upd (fun _ => 0) 0 0))), (mc0 cy mh mq), (mc11 cy mh mq), ((mq 27), .inl (cy 2, 14641, .inl (upd (upd (upd (upd (upd (upd (fun _ => 0) 0 1) 0 1) 0 1) 0 1) 0 1) 0 1)))] H := hP
  have hD : va_D A [((mq 28), .inl (cy 0, 14641, .inl (upd (fun _ => 0) 0 0))), (mc0 cy mh mq), (mc11 cy mh mq), ((mq 27), .inl (cy 2, 14641, .inl (upd (upd (upd (upd (upd (upd (fun _ => 0) 0 1) 0 1) 0 1) 0 1) 0 1) 0 1)))] := hD
  refine lv_if_eq (tgt := 48) hx hb dX12_leastLimit_40 (by decide) (fun c9 => absurd c9 (by decide)) (fun _ => ?_)
  refine lv_iload_n hx hb dX12_leastLimit_43 rfl (lv_at hl 0 rfl) ?_
  refine lv_istore_n (lv' := [(2, .int 6), (3, .int 6), (1, .int 0), (0, .ref mh)]) hx hb dX12_leastLimit_44 rfl hl (by decide) rfl (fun ls hl => ?_)
  refine lv_goto (tgt := 52) hx hb dX12_leastLimit_45 (by decide) ?_
  refine lv_goto (tgt := 24) hx hb dX12_leastLimit_52 (by decide) ?_
  refine lv_iload_n hx hb dX12_leastLimit_24 rfl (lv_at hl 2 rfl) ?_
  refine lv_iload_n hx hb dX12_leastLimit_25 rfl (lv_at hl 0 rfl) ?_
  refine lv_icmp_ge (tgt := 55) hx hb dX12_leastLimit_26 (by decide) (fun c9 => absurd c9 (by decide)) (fun _ => ?_)
  refine lv_iload_n hx hb dX12_leastLimit_29 rfl (lv_at hl 2 rfl) ?_
  refine lv_iload_n hx hb dX12_leastLimit_30 rfl (lv_at hl 0 rfl) ?_
  refine lv_iadd hx hb dX12_leastLimit_31 ?_
  refine lv_cst 6 (by decide) ?_
  refine lv_iconst (v := 2) hx hb dX12_leastLimit_32 (by decide) ?_
  refine lv_idiv hx hb dX12_leastLimit_33 (by decide) ?_
  refine lv_cst 3 (by decide) ?_
  refine lv_istore_n (lv' := [(3, .int 3), (2, .int 6), (1, .int 0), (0, .ref mh)]) hx hb dX12_leastLimit_34 rfl hl (by decide) rfl (fun ls hl => ?_)
  refine lv_aload_n hx hb dX12_leastLimit_35 rfl (lv_at hl 3 rfl) ?_
  refine lv_iload_n hx hb dX12_leastLimit_36 rfl (lv_at hl 0 rfl) ?_
  refine cl_i (wr := [((mq 28), .inl (cy 0, 14641, .inl (upd (fun _ => 0) 0 0)))]) (va_runV (As := [.int 3]) (rest := []) ⟨hx, hb, hml, hown, hts⟩ (c_canAll l D cy mh mq (upd (upd (upd (upd (upd (upd (fun _ => 0) 0 1) 0 1) 0 1) 0 1) 0 1) 0 1) 3 _) (cwV 1 hts gX12_leastLimit_X12_canAll rfl rfl rfl (by decide +kernel) ⟨(Nat.le_of_ble_eq_true rfl), (Nat.le_of_ble_eq_true rfl)⟩) (pre_V hKX hP hD (ci := 12) (q0 := 1) rfl rfl [1, 2, 3] rfl (by decide) rfl) rfl rfl hl.1 rfl (lv_room (Nat.le_of_ble_eq_true rfl)) dX12_leastLimit_37 ⟨(Nat.le_of_ble_eq_true rfl), (Nat.le_of_ble_eq_true rfl)⟩) hP hD hS hA [1, 2, 3] [0] rfl rfl (by decide) (by decide) (fun u8 H locs _ hP hD hS => ?_)
  have hP : va_P D vwCl [((mq 28), .inl (cy 0, 14641, .inl (upd (fun _ => 0) 0 0))), (mc0 cy mh mq), (mc11 cy mh mq), ((mq 27), .inl (cy 2, 14641, .inl (upd (upd (upd (upd (upd (upd (upd (fun _ => 0) 0 1) 0 1) 0 1) 0 1) 0 1) 0 1) 0 1)))] H := hP
  have hD : va_D A [((mq 28), .inl (cy 0, 14641, .inl (upd (fun _ => 0) 0 0))), (mc0 cy mh mq), (mc11 cy mh mq), ((mq 27), .inl (cy 2, 14641, .inl (upd (upd (upd (upd (upd (upd (upd (fun _ => 0) 0 1) 0 1) 0 1) 0 1) 0 1) 0 1) 0 1)))] := hD
  refine lv_if_eq (tgt := 48) hx hb dX12_leastLimit_40 (by decide) (fun c9 => absurd c9 (by decide)) (fun _ => ?_)
  refine lv_iload_n hx hb dX12_leastLimit_43 rfl (lv_at hl 0 rfl) ?_
  refine lv_istore_n (lv' := [(2, .int 3), (3, .int 3), (1, .int 0), (0, .ref mh)]) hx hb dX12_leastLimit_44 rfl hl (by decide) rfl (fun ls hl => ?_)
  refine lv_goto (tgt := 52) hx hb dX12_leastLimit_45 (by decide) ?_
  refine lv_goto (tgt := 24) hx hb dX12_leastLimit_52 (by decide) ?_
  refine lv_iload_n hx hb dX12_leastLimit_24 rfl (lv_at hl 2 rfl) ?_
  refine lv_iload_n hx hb dX12_leastLimit_25 rfl (lv_at hl 0 rfl) ?_
  refine lv_icmp_ge (tgt := 55) hx hb dX12_leastLimit_26 (by decide) (fun c9 => absurd c9 (by decide)) (fun _ => ?_)
  refine lv_iload_n hx hb dX12_leastLimit_29 rfl (lv_at hl 2 rfl) ?_
  refine lv_iload_n hx hb dX12_leastLimit_30 rfl (lv_at hl 0 rfl) ?_
  refine lv_iadd hx hb dX12_leastLimit_31 ?_
  refine lv_cst 3 (by decide) ?_
  refine lv_iconst (v := 2) hx hb dX12_leastLimit_32 (by decide) ?_
  refine lv_idiv hx hb dX12_leastLimit_33 (by decide) ?_
  refine lv_cst 1 (by decide) ?_
  refine lv_istore_n (lv' := [(3, .int 1), (2, .int 3), (1, .int 0), (0, .ref mh)]) hx hb dX12_leastLimit_34 rfl hl (by decide) rfl (fun ls hl => ?_)
  refine lv_aload_n hx hb dX12_leastLimit_35 rfl (lv_at hl 3 rfl) ?_
  refine lv_iload_n hx hb dX12_leastLimit_36 rfl (lv_at hl 0 rfl) ?_
  refine cl_i (wr := [((mq 28), .inl (cy 0, 14641, .inl (upd (fun _ => 0) 0 0)))]) (va_runV (As := [.int 1]) (rest := []) ⟨hx, hb, hml, hown, hts⟩ (c_canAll l D cy mh mq (upd (upd (upd (upd (upd (upd (upd (fun _ => 0) 0 1) 0 1) 0 1) 0 1) 0 1) 0 1) 0 1) 1 _) (cwV 1 hts gX12_leastLimit_X12_canAll rfl rfl rfl (by decide +kernel) ⟨(Nat.le_of_ble_eq_true rfl), (Nat.le_of_ble_eq_true rfl)⟩) (pre_V hKX hP hD (ci := 12) (q0 := 1) rfl rfl [1, 2, 3] rfl (by decide) rfl) rfl rfl hl.1 rfl (lv_room (Nat.le_of_ble_eq_true rfl)) dX12_leastLimit_37 ⟨(Nat.le_of_ble_eq_true rfl), (Nat.le_of_ble_eq_true rfl)⟩) hP hD hS hA [1, 2, 3] [0] rfl rfl (by decide) (by decide) (fun u9 H locs _ hP hD hS => ?_)
  have hP : va_P D vwCl [((mq 28), .inl (cy 0, 14641, .inl (upd (fun _ => 0) 0 0))), (mc0 cy mh mq), (mc11 cy mh mq), ((mq 27), .inl (cy 2, 14641, .inl (upd (upd (upd (upd (upd (upd (upd (upd (fun _ => 0) 0 1) 0 1) 0 1) 0 1) 0 1) 0 1) 0 1) 0 1)))] H := hP
  have hD : va_D A [((mq 28), .inl (cy 0, 14641, .inl (upd (fun _ => 0) 0 0))), (mc0 cy mh mq), (mc11 cy mh mq), ((mq 27), .inl (cy 2, 14641, .inl (upd (upd (upd (upd (upd (upd (upd (upd (fun _ => 0) 0 1) 0 1) 0 1) 0 1) 0 1) 0 1) 0 1) 0 1)))] := hD
  refine lv_if_eq (tgt := 48) hx hb dX12_leastLimit_40 (by decide) (fun c9 => absurd c9 (by decide)) (fun _ => ?_)
  refine lv_iload_n hx hb dX12_leastLimit_43 rfl (lv_at hl 0 rfl) ?_
  refine lv_istore_n (lv' := [(2, .int 1), (3, .int 1), (1, .int 0), (0, .ref mh)]) hx hb dX12_leastLimit_44 rfl hl (by decide) rfl (fun ls hl => ?_)
  refine lv_goto (tgt := 52) hx hb dX12_leastLimit_45 (by decide) ?_
  refine lv_goto (tgt := 24) hx hb dX12_leastLimit_52 (by decide) ?_
  refine lv_iload_n hx hb dX12_leastLimit_24 rfl (lv_at hl 2 rfl) ?_
  refine lv_iload_n hx hb dX12_leastLimit_25 rfl (lv_at hl 0 rfl) ?_
  refine lv_icmp_ge (tgt := 55) hx hb dX12_leastLimit_26 (by decide) (fun c9 => absurd c9 (by decide)) (fun _ => ?_)
  refine lv_iload_n hx hb dX12_leastLimit_29 rfl (lv_at hl 2 rfl) ?_
  refine lv_iload_n hx hb dX12_leastLimit_30 rfl (lv_at hl 0 rfl) ?_
  refine lv_iadd hx hb dX12_leastLimit_31 ?_
  refine lv_cst 1 (by decide) ?_
  refine lv_iconst (v := 2) hx hb dX12_leastLimit_32 (by decide) ?_
  refine lv_idiv hx hb dX12_leastLimit_33 (by decide) ?_
  refine lv_cst 0 (by decide) ?_
  refine lv_istore_n (lv' := [(3, .int 0), (2, .int 1), (1, .int 0), (0, .ref mh)]) hx hb dX12_leastLimit_34 rfl hl (by decide) rfl (fun ls hl => ?_)
  refine lv_aload_n hx hb dX12_leastLimit_35 rfl (lv_at hl 3 rfl) ?_
  refine lv_iload_n hx hb dX12_leastLimit_36 rfl (lv_at hl 0 rfl) ?_
  refine cl_i (wr := [((mq 28), .inl (cy 0, 14641, .inl (upd (fun _ => 0) 0 0)))]) (va_runV (As := [.int 0]) (rest := []) ⟨hx, hb, hml, hown, hts⟩ (c_canAll l D cy mh mq (upd (upd (upd (upd (upd (upd (upd (upd (fun _ => 0) 0 1) 0 1) 0 1) 0 1) 0 1) 0 1) 0 1) 0 1) 0 _) (cwV 1 hts gX12_leastLimit_X12_canAll rfl rfl rfl (by decide +kernel) ⟨(Nat.le_of_ble_eq_true rfl), (Nat.le_of_ble_eq_true rfl)⟩) (pre_V hKX hP hD (ci := 12) (q0 := 1) rfl rfl [1, 2, 3] rfl (by decide) rfl) rfl rfl hl.1 rfl (lv_room (Nat.le_of_ble_eq_true rfl)) dX12_leastLimit_37 ⟨(Nat.le_of_ble_eq_true rfl), (Nat.le_of_ble_eq_true rfl)⟩) hP hD hS hA [1, 2, 3] [0] rfl rfl (by decide) (by decide) (fun u10 H locs _ hP hD hS => ?_)
  have hP : va_P D vwCl [((mq 28), .inl (cy 0, 14641, .inl (upd (fun _ => 0) 0 0))), (mc0 cy mh mq), (mc11 cy mh mq), ((mq 27), .inl (cy 2, 14641, .inl (upd (upd (upd (upd (upd (upd (upd (upd (upd (fun _ => 0) 0 1) 0 1) 0 1) 0 1) 0 1) 0 1) 0 1) 0 1) 0 1)))] H := hP
  have hD : va_D A [((mq 28), .inl (cy 0, 14641, .inl (upd (fun _ => 0) 0 0))), (mc0 cy mh mq), (mc11 cy mh mq), ((mq 27), .inl (cy 2, 14641, .inl (upd (upd (upd (upd (upd (upd (upd (upd (upd (fun _ => 0) 0 1) 0 1) 0 1) 0 1) 0 1) 0 1) 0 1) 0 1) 0 1)))] := hD
  refine lv_if_eq (tgt := 48) hx hb dX12_leastLimit_40 (by decide) (fun c9 => absurd c9 (by decide)) (fun _ => ?_)
  refine lv_iload_n hx hb dX12_leastLimit_43 rfl (lv_at hl 0 rfl) ?_
  refine lv_istore_n (lv' := [(2, .int 0), (3, .int 0), (1, .int 0), (0, .ref mh)]) hx hb dX12_leastLimit_44 rfl hl (by decide) rfl (fun ls hl => ?_)
  refine lv_goto (tgt := 52) hx hb dX12_leastLimit_45 (by decide) ?_
  refine lv_goto (tgt := 24) hx hb dX12_leastLimit_52 (by decide) ?_
  refine lv_iload_n hx hb dX12_leastLimit_24 rfl (lv_at hl 2 rfl) ?_
  refine lv_iload_n hx hb dX12_leastLimit_25 rfl (lv_at hl 0 rfl) ?_
  refine lv_icmp_ge (tgt := 55) hx hb dX12_leastLimit_26 (by decide) (fun _ => ?_) (fun c9 => absurd (by decide) c9)
  refine lv_aload_n hx hb dX12_leastLimit_55 rfl (lv_at hl 3 rfl) ?_
  refine lv_iload_n hx hb dX12_leastLimit_56 rfl (lv_at hl 2 rfl) ?_
  refine cl_i (wr := [((mq 28), .inl (cy 0, 14641, .inl (upd (fun _ => 0) 0 0)))]) (va_runV (As := [.int 0]) (rest := []) ⟨hx, hb, hml, hown, hts⟩ (c_canAll l D cy mh mq (upd (upd (upd (upd (upd (upd (upd (upd (upd (fun _ => 0) 0 1) 0 1) 0 1) 0 1) 0 1) 0 1) 0 1) 0 1) 0 1) 0 _) (cwV 1 hts gX12_leastLimit_X12_canAll rfl rfl rfl (by decide +kernel) ⟨(Nat.le_of_ble_eq_true rfl), (Nat.le_of_ble_eq_true rfl)⟩) (pre_V hKX hP hD (ci := 12) (q0 := 1) rfl rfl [1, 2, 3] rfl (by decide) rfl) rfl rfl hl.1 rfl (lv_room (Nat.le_of_ble_eq_true rfl)) dX12_leastLimit_57 ⟨(Nat.le_of_ble_eq_true rfl), (Nat.le_of_ble_eq_true rfl)⟩) hP hD hS hA [1, 2, 3] [0] rfl rfl (by decide) (by decide) (fun u11 H locs _ hP hD hS => ?_)
  have hP : va_P D vwCl [((mq 28), .inl (cy 0, 14641, .inl (upd (fun _ => 0) 0 0))), (mc0 cy mh mq), (mc11 cy mh mq), ((mq 27), .inl (cy 2, 14641, .inl (upd (upd (upd (upd (upd (upd (upd (upd (upd (upd (fun _ => 0) 0 1) 0 1) 0 1) 0 1) 0 1) 0 1) 0 1) 0 1) 0 1) 0 1)))] H := hP
  have hD : va_D A [((mq 28), .inl (cy 0, 14641, .inl (upd (fun _ => 0) 0 0))), (mc0 cy mh mq), (mc11 cy mh mq), ((mq 27), .inl (cy 2, 14641, .inl (upd (upd (upd (upd (upd (upd (upd (upd (upd (upd (fun _ => 0) 0 1) 0 1) 0 1) 0 1) 0 1) 0 1) 0 1) 0 1) 0 1) 0 1)))] := hD
  refine lv_istore_n (lv' := [(3, .int 1), (2, .int 0), (1, .int 0), (0, .ref mh)]) hx hb dX12_leastLimit_60 rfl hl (by decide) rfl (fun ls hl => ?_)
  refine lv_iload_n hx hb dX12_leastLimit_61 rfl (lv_at hl 0 rfl) ?_
  refine lv_if_eq (tgt := 69) hx hb dX12_leastLimit_62 (by decide) (fun c9 => absurd c9 (by decide)) (fun _ => ?_)
  refine lv_iload_n hx hb dX12_leastLimit_65 rfl (lv_at hl 2 rfl) ?_
  refine lv_goto (tgt := 70) hx hb dX12_leastLimit_66 (by decide) ?_
  exact en_i hx hb hr hlocks () rfl trivial (hP.sub [] rfl) (hD.sub [] (by decide) rfl) hS (Nat.le_of_ble_eq_true rfl) (Nat.le_of_ble_eq_true rfl) dX12_leastLimit_70
theorem iw_X12_emptying_X12 : ∀ w ∈ wsX120, w ∈ wsX12_emptying := by decide +kernel
set_option maxHeartbeats 4000000 in
set_option maxRecDepth 100000 in
theorem m_emptying (l : Launch) (D : va_G) (cy : Nat → ClassId) (mh : Nat) (mq : Nat → Nat) (sz : Nat) : Met l yX12_emptying wsX12_emptying ({ frames := 3, cells := 0, slots := 0, locals := 72 }) (wPre D cy [.ref mh] sz [(mc0 cy mh mq), (mc11 cy mh mq), (mc29 cy mh mq), (mc28 cy mh mq)]) (wQi D 0 (fun _ : Unit => True) (fun _u : Unit => []) (va_A [(mc0 cy mh mq), (mc11 cy mh mq), (mc29 cy mh mq), (mc28 cy mh mq)] sz)) 0 0 (va_A [(mc0 cy mh mq), (mc11 cy mh mq), (mc29 cy mh mq), (mc28 cy mh mq)] sz) := by
  refine met_go (y := yX12_emptying) (ws := wsX12_emptying) (av := [.ref mh]) (cc := cX12_emptying) (maxL := 1) (ret := (some .int)) (Qc := fun A => wQi D 0 (fun _ : Unit => True) (fun _u : Unit => []) A) (by decide) rfl (Nat.le_of_ble_eq_true rfl) ?_
  intro p e s m below meth c ls A hx hb hr hml hown hts hlocks hname hKX hP hD hA hS hl
  have hown : s.vm.findClass RX12 = some m.cls := hown
  have hl : lv_has ls 1 [(0, .ref mh)] := hl
  refine lv_aload_n hx hb dX12_emptying_0 rfl (lv_at hl 0 rfl) ?_
  refine lv_iconst (v := 0) hx hb dX12_emptying_1 (by decide) ?_
  refine va_put (D := D) (ci := 12) (v := .int 0) (ty := .int) (C := RX12) (T := TX12) (N := 55) hx hb hts iw_X12_emptying_X12 tyX12 tyX12_ok nmX12 hown hKX.1 hP hD hS 0 rfl rfl 0 (by decide) (hts (.fieldLink RX12 1 "TrainFerryModel" "thrown" "I") (by decide +kernel)) (fun _ h9 => h9) rfl (by decide +kernel) rfl rfl (Nat.le_of_ble_eq_true rfl) dX12_emptying_2 (fun H locs hP hD hS => ?_)
  have hP : va_P D vwCl [(mh, .inr (12, [.int 0, .int 100, .int 200, .int 5, .int 100, .int 0, .int 0, .int 0, .int 0, .int 0, .int 0, .ref (mq 0), .int 0, .ref (mq 1), .ref (mq 2), .ref (mq 3), .ref (mq 4), .ref (mq 5), .ref (mq 6), .ref (mq 7), .ref (mq 8), .ref (mq 9), .ref (mq 10), .int 0, .ref (mq 11), .ref (mq 12), .ref (mq 13), .int 0, .ref (mq 14), .ref (mq 15), .ref (mq 16), .ref (mq 17), .ref (mq 18), .int 0, .int 0, .int 0, .int 0, .int 0, .int 0, .int 0, .int (-1), .ref (mq 19), .ref (mq 20), .ref (mq 21), .ref (mq 22), .ref (mq 23), .ref (mq 24), .int 0, .int 0, .int 0, .ref (mq 25), .ref (mq 26), .ref (mq 27), .ref (mq 28), .ref (mq 29)])), (mc11 cy mh mq), (mc29 cy mh mq), (mc28 cy mh mq)] H := hP
  have hD : va_D A [(mh, .inr (12, [.int 0, .int 100, .int 200, .int 5, .int 100, .int 0, .int 0, .int 0, .int 0, .int 0, .int 0, .ref (mq 0), .int 0, .ref (mq 1), .ref (mq 2), .ref (mq 3), .ref (mq 4), .ref (mq 5), .ref (mq 6), .ref (mq 7), .ref (mq 8), .ref (mq 9), .ref (mq 10), .int 0, .ref (mq 11), .ref (mq 12), .ref (mq 13), .int 0, .ref (mq 14), .ref (mq 15), .ref (mq 16), .ref (mq 17), .ref (mq 18), .int 0, .int 0, .int 0, .int 0, .int 0, .int 0, .int 0, .int (-1), .ref (mq 19), .ref (mq 20), .ref (mq 21), .ref (mq 22), .ref (mq 23), .ref (mq 24), .int 0, .int 0, .int 0, .ref (mq 25), .ref (mq 26), .ref (mq 27), .ref (mq 28), .ref (mq 29)])), (mc11 cy mh mq), (mc29 cy mh mq), (mc28 cy mh mq)] := hD
  refine lv_aload_n hx hb dX12_emptying_5 rfl (lv_at hl 0 rfl) ?_
  refine cl_i (wr := []) (va_runV (As := []) (rest := []) ⟨hx, hb, hml, hown, hts⟩ (c_leastLimit l D cy mh mq _) (cwV 0 hts gX12_emptying_X12_leastLimit rfl rfl rfl (by decide +kernel) ⟨(Nat.le_of_ble_eq_true rfl), (Nat.le_of_ble_eq_true rfl)⟩) (pre_V hKX hP hD (ci := 12) (q0 := 0) rfl rfl [0, 1, 2, 3] rfl (by decide) rfl) rfl rfl hl.1 rfl (lv_room (Nat.le_of_ble_eq_true rfl)) dX12_emptying_6 ⟨(Nat.le_of_ble_eq_true rfl), (Nat.le_of_ble_eq_true rfl)⟩) hP hD hS hA [0, 1, 2, 3] [] rfl rfl (by decide) (by decide) (fun u1 H locs _ hP hD hS => ?_)
  have hP : va_P D vwCl [] H := hP
  have hD : va_D A [] := hD
  exact en_i hx hb hr hlocks () rfl trivial (hP.sub [] rfl) (hD.sub [] (by decide) rfl) hS (Nat.le_of_ble_eq_true rfl) (Nat.le_of_ble_eq_true rfl) dX12_emptying_9
theorem iw_X12_emptied_X12 : ∀ w ∈ wsX120, w ∈ wsX12_emptied := by decide +kernel
set_option maxHeartbeats 4000000 in
set_option maxRecDepth 100000 in
theorem m_emptied (l : Launch) (D : va_G) (cy : Nat → ClassId) (mh : Nat) (mq : Nat → Nat) (xi : Int32) (sz : Nat) : Met l yX12_emptied wsX12_emptied ({ frames := 1, cells := 0, slots := 0, locals := 20 }) (wPre D cy [.ref mh, .int xi] sz [(mc0 cy mh mq), (mc11 cy mh mq)]) (wQi D (-1) (fun _ : Unit => True) (fun _u : Unit => []) (va_A [(mc0 cy mh mq), (mc11 cy mh mq)] sz)) 0 0 (va_A [(mc0 cy mh mq), (mc11 cy mh mq)] sz) := by
  refine met_go (y := yX12_emptied) (ws := wsX12_emptied) (av := [.ref mh, .int xi]) (cc := cX12_emptied) (maxL := 8) (ret := (some .int)) (Qc := fun A => wQi D (-1) (fun _ : Unit => True) (fun _u : Unit => []) A) (by decide) rfl (Nat.le_of_ble_eq_true rfl) ?_
  intro p e s m below meth c ls A hx hb hr hml hown hts hlocks hname hKX hP hD hA hS hl
  have hown : s.vm.findClass RX12 = some m.cls := hown
  have hl : lv_has ls 8 [(0, .ref mh), (1, .int xi)] := hl
  refine lv_aload_n hx hb dX12_emptied_0 rfl (lv_at hl 0 rfl) ?_
  refine lv_iconst (v := 0) hx hb dX12_emptied_1 (by decide) ?_
  refine va_put (D := D) (ci := 12) (v := .int 0) (ty := .int) (C := RX12) (T := TX12) (N := 55) hx hb hts iw_X12_emptied_X12 tyX12 tyX12_ok nmX12 hown hKX.1 hP hD hS 0 rfl rfl 0 (by decide) (hts (.fieldLink RX12 1 "TrainFerryModel" "thrown" "I") (by decide +kernel)) (fun _ h9 => h9) rfl (by decide +kernel) rfl rfl (Nat.le_of_ble_eq_true rfl) dX12_emptied_2 (fun H locs hP hD hS => ?_)
  have hP : va_P D vwCl [(mh, .inr (12, [.int 0, .int 100, .int 200, .int 5, .int 100, .int 0, .int 0, .int 0, .int 0, .int 0, .int 0, .ref (mq 0), .int 0, .ref (mq 1), .ref (mq 2), .ref (mq 3), .ref (mq 4), .ref (mq 5), .ref (mq 6), .ref (mq 7), .ref (mq 8), .ref (mq 9), .ref (mq 10), .int 0, .ref (mq 11), .ref (mq 12), .ref (mq 13), .int 0, .ref (mq 14), .ref (mq 15), .ref (mq 16), .ref (mq 17), .ref (mq 18), .int 0, .int 0, .int 0, .int 0, .int 0, .int 0, .int 0, .int (-1), .ref (mq 19), .ref (mq 20), .ref (mq 21), .ref (mq 22), .ref (mq 23), .ref (mq 24), .int 0, .int 0, .int 0, .ref (mq 25), .ref (mq 26), .ref (mq 27), .ref (mq 28), .ref (mq 29)])), (mc11 cy mh mq)] H := hP
  have hD : va_D A [(mh, .inr (12, [.int 0, .int 100, .int 200, .int 5, .int 100, .int 0, .int 0, .int 0, .int 0, .int 0, .int 0, .ref (mq 0), .int 0, .ref (mq 1), .ref (mq 2), .ref (mq 3), .ref (mq 4), .ref (mq 5), .ref (mq 6), .ref (mq 7), .ref (mq 8), .ref (mq 9), .ref (mq 10), .int 0, .ref (mq 11), .ref (mq 12), .ref (mq 13), .int 0, .ref (mq 14), .ref (mq 15), .ref (mq 16), .ref (mq 17), .ref (mq 18), .int 0, .int 0, .int 0, .int 0, .int 0, .int 0, .int 0, .int (-1), .ref (mq 19), .ref (mq 20), .ref (mq 21), .ref (mq 22), .ref (mq 23), .ref (mq 24), .int 0, .int 0, .int 0, .ref (mq 25), .ref (mq 26), .ref (mq 27), .ref (mq 28), .ref (mq 29)])), (mc11 cy mh mq)] := hD
  refine lv_iload_n hx hb dX12_emptied_5 rfl (lv_at hl 1 rfl) ?_
  refine lv_if_lt (tgt := 17) hx hb dX12_emptied_6 (by decide) (fun c1 => ?_) (fun c1 => ?_)
  · refine lv_iconst (v := (-1)) hx hb dX12_emptied_17 (by decide) ?_
    exact en_i hx hb hr hlocks () rfl trivial (hP.sub [] rfl) (hD.sub [] (by decide) rfl) hS (Nat.le_of_ble_eq_true rfl) (Nat.le_of_ble_eq_true rfl) dX12_emptied_18
  · refine lv_iload_n hx hb dX12_emptied_9 rfl (lv_at hl 1 rfl) ?_
    refine lv_aload_n hx hb dX12_emptied_10 rfl (lv_at hl 0 rfl) ?_
    refine cl_i (wr := []) (va_runV (As := []) (rest := [.int xi]) ⟨hx, hb, hml, hown, hts⟩ (c_onDeck l D cy mh mq _) (cwV 0 hts gX12_emptied_X12_onDeck rfl rfl rfl (by decide +kernel) ⟨(Nat.le_of_ble_eq_true rfl), (Nat.le_of_ble_eq_true rfl)⟩) (pre_V hKX hP hD (ci := 12) (q0 := 0) rfl rfl [0, 1] rfl (by decide) rfl) rfl rfl hl.1 rfl (lv_room (Nat.le_of_ble_eq_true rfl)) dX12_emptied_11 ⟨(Nat.le_of_ble_eq_true rfl), (Nat.le_of_ble_eq_true rfl)⟩) hP hD hS hA [0, 1] [] rfl rfl (by decide) (by decide) (fun u2 H locs _ hP hD hS => ?_)
    have hP : va_P D vwCl [(mc0 cy mh mq), (mc11 cy mh mq)] H := hP
    have hD : va_D A [(mc0 cy mh mq), (mc11 cy mh mq)] := hD
    refine lv_icmp_lt (tgt := 19) hx hb dX12_emptied_14 (by decide) (fun c9 => absurd c9 c1) (fun _ => ?_)
    refine lv_iconst (v := (-1)) hx hb dX12_emptied_17 (by decide) ?_
    exact en_i hx hb hr hlocks () rfl trivial (hP.sub [] rfl) (hD.sub [] (by decide) rfl) hS (Nat.le_of_ble_eq_true rfl) (Nat.le_of_ble_eq_true rfl) dX12_emptied_18
