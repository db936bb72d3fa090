theorem iw_X12_isRampOpen_X12 : ∀ w ∈ wsX120, w ∈ wsX12_isRampOpen := by decide +kernel
set_option maxHeartbeats 4000000 in
set_option maxRecDepth 100000 in
theorem c_isRampOpen (l : Launch) (D : va_G) (cy : Nat → ClassId) (mh : Nat) (mq : Nat → Nat) (nw : Int32) (th : Int32) (x : Int32) (sz : Nat) : Met l yX12_isRampOpen wsX12_isRampOpen ({ frames := 0, cells := 0, slots := 0, locals := 0 }) (wPre D cy [.ref mh, .int x] sz [(mh, .inr (12, [.int th, .int 100, .int 200, .int 5, .int 100, .int 0, .int nw, .int 0, .int 0, .int 0, .int 0, .ref (mq 0), .int 0, .ref (mq 1), .ref (mq 2), .ref (mq 3), .ref (mq 4), .ref (mq 5), .ref (mq 6), .ref (mq 7), .ref (mq 8), .ref (mq 9), .ref (mq 10), .int 0, .ref (mq 11), .ref (mq 12), .ref (mq 13), .int 0, .ref (mq 14), .ref (mq 15), .ref (mq 16), .ref (mq 17), .ref (mq 18), .int 0, .int 0, .int 0, .int 0, .int 0, .int 0, .int 0, .int (-1), .ref (mq 19), .ref (mq 20), .ref (mq 21), .ref (mq 22), .ref (mq 23), .ref (mq 24), .int 0, .int 0, .int 0, .ref (mq 25), .ref (mq 26), .ref (mq 27), .ref (mq 28), .ref (mq 29)]))]) (wQi D 0 (fun _ : Unit => True) (fun _u : Unit => [(mh, .inr (12, [.int th, .int 100, .int 200, .int 5, .int 100, .int 0, .int nw, .int 0, .int 0, .int 0, .int 0, .ref (mq 0), .int 0, .ref (mq 1), .ref (mq 2), .ref (mq 3), .ref (mq 4), .ref (mq 5), .ref (mq 6), .ref (mq 7), .ref (mq 8), .ref (mq 9), .ref (mq 10), .int 0, .ref (mq 11), .ref (mq 12), .ref (mq 13), .int 0, .ref (mq 14), .ref (mq 15), .ref (mq 16), .ref (mq 17), .ref (mq 18), .int 0, .int 0, .int 0, .int 0, .int 0, .int 0, .int 0, .int (-1), .ref (mq 19), .ref (mq 20), .ref (mq 21), .ref (mq 22), .ref (mq 23), .ref (mq 24), .int 0, .int 0, .int 0, .ref (mq 25), .ref (mq 26), .ref (mq 27), .ref (mq 28), .ref (mq 29)]))]) (va_A [(mh, .inr (12, [.int th, .int 100, .int 200, .int 5, .int 100, .int 0, .int nw, .int 0, .int 0, .int 0, .int 0, .ref (mq 0), .int 0, .ref (mq 1), .ref (mq 2), .ref (mq 3), .ref (mq 4), .ref (mq 5), .ref (mq 6), .ref (mq 7), .ref (mq 8), .ref (mq 9), .ref (mq 10), .int 0, .ref (mq 11), .ref (mq 12), .ref (mq 13), .int 0, .ref (mq 14), .ref (mq 15), .ref (mq 16), .ref (mq 17), .ref (mq 18), .int 0, .int 0, .int 0, .int 0, .int 0, .int 0, .int 0, .int (-1), .ref (mq 19), .ref (mq 20), .ref (mq 21), .ref (mq 22), .ref (mq 23), .ref (mq 24), .int 0, .int 0, .int 0, .ref (mq 25), .ref (mq 26), .ref (mq 27), .ref (mq 28), .ref (mq 29)]))] sz)) 0 0 (va_A [(mh, .inr (12, [.int th, .int 100, .int 200, .int 5, .int 100, .int 0, .int nw, .int 0, .int 0, .int 0, .int 0, .ref (mq 0), .int 0, .ref (mq 1), .ref (mq 2), .ref (mq 3), .ref (mq 4), .ref (mq 5), .ref (mq 6), .ref (mq 7), .ref (mq 8), .ref (mq 9), .ref (mq 10), .int 0, .ref (mq 11), .ref (mq 12), .ref (mq 13), .int 0, .ref (mq 14), .ref (mq 15), .ref (mq 16), .ref (mq 17), .ref (mq 18), .int 0, .int 0, .int 0, .int 0, .int 0, .int 0, .int 0, .int (-1), .ref (mq 19), .ref (mq 20), .ref (mq 21), .ref (mq 22), .ref (mq 23), .ref (mq 24), .int 0, .int 0, .int 0, .ref (mq 25), .ref (mq 26), .ref (mq 27), .ref (mq 28), .ref (mq 29)]))] sz) := by
  refine met_go (y := yX12_isRampOpen) (ws := wsX12_isRampOpen) (av := [.ref mh, .int x]) (cc := cX12_isRampOpen) (maxL := 4) (ret := (some .boolean)) (Qc := fun A => wQi D 0 (fun _ : Unit => True) (fun _u : Unit => [(mh, .inr (12, [.int th, .int 100, .int 200, .int 5, .int 100, .int 0, .int nw, .int 0, .int 0, .int 0, .int 0, .ref (mq 0), .int 0, .ref (mq 1), .ref (mq 2), .ref (mq 3), .ref (mq 4), .ref (mq 5), .ref (mq 6), .ref (mq 7), .ref (mq 8), .ref (mq 9), .ref (mq 10), .int 0, .ref (mq 11), .ref (mq 12), .ref (mq 13), .int 0, .ref (mq 14), .ref (mq 15), .ref (mq 16), .ref (mq 17), .ref (mq 18), .int 0, .int 0, .int 0, .int 0, .int 0, .int 0, .int 0, .int (-1), .ref (mq 19), .ref (mq 20), .ref (mq 21), .ref (mq 22), .ref (mq 23), .ref (mq 24), .int 0, .int 0, .int 0, .ref (mq 25), .ref (mq 26), .ref (mq 27), .ref (mq 28), .ref (mq 29)]))]) A) (by decide) rfl (Nat.le_of_ble_eq_true rfl) ?_
  intro p e s m below meth c ls A hx hb hr hml hown hts hlocks hname hKX hP hD hA hS hl
  have hown : s.vm.findClass RX12 = some m.cls := hown
  have hl : lv_has ls 4 [(0, .ref mh), (1, .int x)] := hl
  refine lv_iconst (v := (-1)) hx hb dX12_isRampOpen_0 (by decide) ?_
  refine lv_istore_n (lv' := [(2, .int (-1)), (0, .ref mh), (1, .int x)]) hx hb dX12_isRampOpen_1 rfl hl (by decide) rfl (fun ls hl => ?_)
  refine lv_iconst (v := 0) hx hb dX12_isRampOpen_2 (by decide) ?_
  refine lv_istore_n (lv' := [(3, .int 0), (2, .int (-1)), (0, .ref mh), (1, .int x)]) hx hb dX12_isRampOpen_3 rfl hl (by decide) rfl (fun ls hl => ?_)
  refine lv_iload_n hx hb dX12_isRampOpen_4 rfl (lv_at hl 0 rfl) ?_
  refine lv_aload_n hx hb dX12_isRampOpen_5 rfl (lv_at hl 2 rfl) ?_
  refine va_get (D := D) (ci := 12) (v := .int 0) (C := RX12) (T := TX12) (N := 55) hx hb hts iw_X12_isRampOpen_X12 hown hKX.1 hP 0 rfl rfl 23 (by decide) (hts (.fieldLink RX12 155 "TrainFerryModel" "tides" "I") (by decide +kernel)) (fun _ h9 => h9) rfl dX12_isRampOpen_6 ?_
  refine lv_icmp_ge (tgt := 63) hx hb dX12_isRampOpen_9 (by decide) (fun _ => ?_) (fun c9 => absurd (by decide) c9)
  refine lv_iload_n hx hb dX12_isRampOpen_63 rfl (lv_at hl 1 rfl) ?_
  refine lv_iconst (v := (-1)) hx hb dX12_isRampOpen_64 (by decide) ?_
  refine lv_icmp_eq (tgt := 77) hx hb dX12_isRampOpen_65 (by decide) (fun _ => ?_) (fun c9 => absurd (by decide) c9)
  refine lv_iconst (v := 0) hx hb dX12_isRampOpen_77 (by decide) ?_
  exact en_z hx hb hr hlocks rfl () rfl trivial (hP.sub [0] rfl) (hD.sub [0] (by decide) rfl) hS (Nat.le_of_ble_eq_true rfl) (Nat.le_of_ble_eq_true rfl) dX12_isRampOpen_78
theorem iw_X12_inForce_X12 : ∀ w ∈ wsX120, w ∈ wsX12_inForce := by decide +kernel
set_option maxHeartbeats 4000000 in
set_option maxRecDepth 100000 in
theorem c_M_inForce (l : Launch) (D : va_G) (cy : Nat → ClassId) (mh : Nat) (mq : Nat → Nat) (nw : Int32) (sz : Nat) : Met l yX12_inForce wsX12_inForce ({ frames := 0, cells := 0, slots := 0, locals := 0 }) (wPre D cy [.ref mh] sz [(mh, .inr (12, [.int 0, .int 100, .int 200, .int 5, .int 100, .int 0, .int nw, .int 0, .int 0, .int 0, .int 0, .ref (mq 0), .int 0, .ref (mq 1), .ref (mq 2), .ref (mq 3), .ref (mq 4), .ref (mq 5), .ref (mq 6), .ref (mq 7), .ref (mq 8), .ref (mq 9), .ref (mq 10), .int 0, .ref (mq 11), .ref (mq 12), .ref (mq 13), .int 0, .ref (mq 14), .ref (mq 15), .ref (mq 16), .ref (mq 17), .ref (mq 18), .int 0, .int 0, .int 0, .int 0, .int 0, .int 0, .int 0, .int (-1), .ref (mq 19), .ref (mq 20), .ref (mq 21), .ref (mq 22), .ref (mq 23), .ref (mq 24), .int 0, .int 0, .int 0, .ref (mq 25), .ref (mq 26), .ref (mq 27), .ref (mq 28), .ref (mq 29)]))]) (wQi D (-1) (fun _ : Unit => True) (fun _u : Unit => [(mh, .inr (12, [.int 0, .int 100, .int 200, .int 5, .int 100, .int 0, .int nw, .int 0, .int 0, .int 0, .int 0, .ref (mq 0), .int 0, .ref (mq 1), .ref (mq 2), .ref (mq 3), .ref (mq 4), .ref (mq 5), .ref (mq 6), .ref (mq 7), .ref (mq 8), .ref (mq 9), .ref (mq 10), .int 0, .ref (mq 11), .ref (mq 12), .ref (mq 13), .int 0, .ref (mq 14), .ref (mq 15), .ref (mq 16), .ref (mq 17), .ref (mq 18), .int 0, .int 0, .int 0, .int 0, .int 0, .int 0, .int 0, .int (-1), .ref (mq 19), .ref (mq 20), .ref (mq 21), .ref (mq 22), .ref (mq 23), .ref (mq 24), .int 0, .int 0, .int 0, .ref (mq 25), .ref (mq 26), .ref (mq 27), .ref (mq 28), .ref (mq 29)]))]) (va_A [(mh, .inr (12, [.int 0, .int 100, .int 200, .int 5, .int 100, .int 0, .int nw, .int 0, .int 0, .int 0, .int 0, .ref (mq 0), .int 0, .ref (mq 1), .ref (mq 2), .ref (mq 3), .ref (mq 4), .ref (mq 5), .ref (mq 6), .ref (mq 7), .ref (mq 8), .ref (mq 9), .ref (mq 10), .int 0, .ref (mq 11), .ref (mq 12), .ref (mq 13), .int 0, .ref (mq 14), .ref (mq 15), .ref (mq 16), .ref (mq 17), .ref (mq 18), .int 0, .int 0, .int 0, .int 0, .int 0, .int 0, .int 0, .int (-1), .ref (mq 19), .ref (mq 20), .ref (mq 21), .ref (mq 22), .ref (mq 23), .ref (mq 24), .int 0, .int 0, .int 0, .ref (mq 25), .ref (mq 26), .ref (mq 27), .ref (mq 28), .ref (mq 29)]))] sz)) 0 0 (va_A [(mh, .inr (12, [.int 0, .int 100, .int 200, .int 5, .int 100, .int 0, .int nw, .int 0, .int 0, .int 0, .int 0, .ref (mq 0), .int 0, .ref (mq 1), .ref (mq 2), .ref (mq 3), .ref (mq 4), .ref (mq 5), .ref (mq 6), .ref (mq 7), .ref (mq 8), .ref (mq 9), .ref (mq 10), .int 0, .ref (mq 11), .ref (mq 12), .ref (mq 13), .int 0, .ref (mq 14), .ref (mq 15), .ref (mq 16), .ref (mq 17), .ref (mq 18), .int 0, .int 0, .int 0, .int 0, .int 0, .int 0, .int 0, .int (-1), .ref (mq 19), .ref (mq 20), .ref (mq 21), .ref (mq 22), .ref (mq 23), .ref (mq 24), .int 0, .int 0, .int 0, .ref (mq 25), .ref (mq 26), .ref (mq 27), .ref (mq 28), .ref (mq 29)]))] sz) := by
  refine met_go (y := yX12_inForce) (ws := wsX12_inForce) (av := [.ref mh]) (cc := cX12_inForce) (maxL := 3) (ret := (some .int)) (Qc := fun A => wQi D (-1) (fun _ : Unit => True) (fun _u : Unit => [(mh, .inr (12, [.int 0, .int 100, .int 200, .int 5, .int 100, .int 0, .int nw, .int 0, .int 0, .int 0, .int 0, .ref (mq 0), .int 0, .ref (mq 1), .ref (mq 2), .ref (mq 3), .ref (mq 4), .ref (mq 5), .ref (mq 6), .ref (mq 7), .ref (mq 8), .ref (mq 9), .ref (mq 10), .int 0, .ref (mq 11), .ref (mq 12), .ref (mq 13), .int 0, .ref (mq 14), .ref (mq 15), .ref (mq 16), .ref (mq 17), .ref (mq 18), .int 0, .int 0, .int 0, .int 0, .int 0, .int 0, .int 0, .int (-1), .ref (mq 19), .ref (mq 20), .ref (mq 21), .ref (mq 22), .ref (mq 23), .ref (mq 24), .int 0, .int 0, .int 0, .ref (mq 25), .ref (mq 26), .ref (mq 27), .ref (mq 28), .ref (mq 29)]))]) A) (by decide) rfl (Nat.le_of_ble_eq_true rfl) ?_
  intro p e s m below meth c ls A hx hb hr hml hown hts hlocks hname hKX hP hD hA hS hl
  have hown : s.vm.findClass RX12 = some m.cls := hown
  have hl : lv_has ls 3 [(0, .ref mh)] := hl
  refine lv_iconst (v := (-1)) hx hb dX12_inForce_0 (by decide) ?_
  refine lv_istore_n (lv' := [(1, .int (-1)), (0, .ref mh)]) hx hb dX12_inForce_1 rfl hl (by decide) rfl (fun ls hl => ?_)
  refine lv_iconst (v := 0) hx hb dX12_inForce_2 (by decide) ?_
  refine lv_istore_n (lv' := [(2, .int 0), (1, .int (-1)), (0, .ref mh)]) hx hb dX12_inForce_3 rfl hl (by decide) rfl (fun ls hl => ?_)
  refine lv_iload_n hx hb dX12_inForce_4 rfl (lv_at hl 0 rfl) ?_
  refine lv_aload_n hx hb dX12_inForce_5 rfl (lv_at hl 2 rfl) ?_
  refine va_get (D := D) (ci := 12) (v := .int 0) (C := RX12) (T := TX12) (N := 55) hx hb hts iw_X12_inForce_X12 hown hKX.1 hP 0 rfl rfl 27 (by decide) (hts (.fieldLink RX12 193 "TrainFerryModel" "agreements" "I") (by decide +kernel)) (fun _ h9 => h9) rfl dX12_inForce_6 ?_
  refine lv_icmp_ge (tgt := 53) hx hb dX12_inForce_9 (by decide) (fun _ => ?_) (fun c9 => absurd (by decide) c9)
  refine lv_iload_n hx hb dX12_inForce_53 rfl (lv_at hl 1 rfl) ?_
  exact en_i hx hb hr hlocks () rfl trivial (hP.sub [0] rfl) (hD.sub [0] (by decide) rfl) hS (Nat.le_of_ble_eq_true rfl) (Nat.le_of_ble_eq_true rfl) dX12_inForce_54
theorem iw_X12_cause_X12 : ∀ w ∈ wsX120, w ∈ wsX12_cause := by decide +kernel
set_option maxHeartbeats 4000000 in
set_option maxRecDepth 100000 in
theorem c_cause_0 (l : Launch) (D : va_G) (cy : Nat → ClassId) (mh : Nat) (mq : Nat → Nat) (nw : Int32) (sz : Nat) : Met l yX12_cause wsX12_cause ({ frames := 0, cells := 0, slots := 0, locals := 0 }) (wPre D cy [.ref mh, .int 0, .int 0] sz [(mh, .inr (12, [.int 0, .int 100, .int 200, .int 5, .int 100, .int 0, .int nw, .int 0, .int 0, .int 0, .int 0, .ref (mq 0), .int 0, .ref (mq 1), .ref (mq 2), .ref (mq 3), .ref (mq 4), .ref (mq 5), .ref (mq 6), .ref (mq 7), .ref (mq 8), .ref (mq 9), .ref (mq 10), .int 0, .ref (mq 11), .ref (mq 12), .ref (mq 13), .int 0, .ref (mq 14), .ref (mq 15), .ref (mq 16), .ref (mq 17), .ref (mq 18), .int 0, .int 0, .int 0, .int 0, .int 0, .int 0, .int 0, .int (-1), .ref (mq 19), .ref (mq 20), .ref (mq 21), .ref (mq 22), .ref (mq 23), .ref (mq 24), .int 0, .int 0, .int 0, .ref (mq 25), .ref (mq 26), .ref (mq 27), .ref (mq 28), .ref (mq 29)]))]) (wQi D 1 (fun _ : Unit => True) (fun _u : Unit => [(mh, .inr (12, [.int 0, .int 100, .int 200, .int 5, .int 100, .int 0, .int nw, .int 0, .int 0, .int 0, .int 0, .ref (mq 0), .int 0, .ref (mq 1), .ref (mq 2), .ref (mq 3), .ref (mq 4), .ref (mq 5), .ref (mq 6), .ref (mq 7), .ref (mq 8), .ref (mq 9), .ref (mq 10), .int 0, .ref (mq 11), .ref (mq 12), .ref (mq 13), .int 0, .ref (mq 14), .ref (mq 15), .ref (mq 16), .ref (mq 17), .ref (mq 18), .int 0, .int 0, .int 0, .int 0, .int 0, .int 0, .int 0, .int (-1), .ref (mq 19), .ref (mq 20), .ref (mq 21), .ref (mq 22), .ref (mq 23), .ref (mq 24), .int 0, .int 0, .int 0, .ref (mq 25), .ref (mq 26), .ref (mq 27), .ref (mq 28), .ref (mq 29)]))]) (va_A [(mh, .inr (12, [.int 0, .int 100, .int 200, .int 5, .int 100, .int 0, .int nw, .int 0, .int 0, .int 0, .int 0, .ref (mq 0), .int 0, .ref (mq 1), .ref (mq 2), .ref (mq 3), .ref (mq 4), .ref (mq 5), .ref (mq 6), .ref (mq 7), .ref (mq 8), .ref (mq 9), .ref (mq 10), .int 0, .ref (mq 11), .ref (mq 12), .ref (mq 13), .int 0, .ref (mq 14), .ref (mq 15), .ref (mq 16), .ref (mq 17), .ref (mq 18), .int 0, .int 0, .int 0, .int 0, .int 0, .int 0, .int 0, .int (-1), .ref (mq 19), .ref (mq 20), .ref (mq 21), .ref (mq 22), .ref (mq 23), .ref (mq 24), .int 0, .int 0, .int 0, .ref (mq 25), .ref (mq 26), .ref (mq 27), .ref (mq 28), .ref (mq 29)]))] sz)) 0 0 (va_A [(mh, .inr (12, [.int 0, .int 100, .int 200, .int 5, .int 100, .int 0, .int nw, .int 0, .int 0, .int 0, .int 0, .ref (mq 0), .int 0, .ref (mq 1), .ref (mq 2), .ref (mq 3), .ref (mq 4), .ref (mq 5), .ref (mq 6), .ref (mq 7), .ref (mq 8), .ref (mq 9), .ref (mq 10), .int 0, .ref (mq 11), .ref (mq 12), .ref (mq 13), .int 0, .ref (mq 14), .ref (mq 15), .ref (mq 16), .ref (mq 17), .ref (mq 18), .int 0, .int 0, .int 0, .int 0, .int 0, .int 0, .int 0, .int (-1), .ref (mq 19), .ref (mq 20), .ref (mq 21), .ref (mq 22), .ref (mq 23), .ref (mq 24), .int 0, .int 0, .int 0, .ref (mq 25), .ref (mq 26), .ref (mq 27), .ref (mq 28), .ref (mq 29)]))] sz) := by
  refine met_go (y := yX12_cause) (ws := wsX12_cause) (av := [.ref mh, .int 0, .int 0]) (cc := cX12_cause) (maxL := 3) (ret := (some .int)) (Qc := fun A => wQi D 1 (fun _ : Unit => True) (fun _u : Unit => [(mh, .inr (12, [.int 0, .int 100, .int 200, .int 5, .int 100, .int 0, .int nw, .int 0, .int 0, .int 0, .int 0, .ref (mq 0), .int 0, .ref (mq 1), .ref (mq 2), .ref (mq 3), .ref (mq 4), .ref (mq 5), .ref (mq 6), .ref (mq 7), .ref (mq 8), .ref (mq 9), .ref (mq 10), .int 0, .ref (mq 11), .ref (mq 12), .ref (mq 13), .int 0, .ref (mq 14), .ref (mq 15), .ref (mq 16), .ref (mq 17), .ref (mq 18), .int 0, .int 0, .int 0, .int 0, .int 0, .int 0, .int 0, .int (-1), .ref (mq 19), .ref (mq 20), .ref (mq 21), .ref (mq 22), .ref (mq 23), .ref (mq 24), .int 0, .int 0, .int 0, .ref (mq 25), .ref (mq 26), .ref (mq 27), .ref (mq 28), .ref (mq 29)]))]) A) (by decide) rfl (Nat.le_of_ble_eq_true rfl) ?_
  intro p e s m below meth c ls A hx hb hr hml hown hts hlocks hname hKX hP hD hA hS hl
  have hown : s.vm.findClass RX12 = some m.cls := hown
  have hl : lv_has ls 3 [(0, .ref mh), (1, .int 0), (2, .int 0)] := hl
  refine lv_aload_n hx hb dX12_cause_0 rfl (lv_at hl 0 rfl) ?_
  refine va_get (D := D) (ci := 12) (v := .int 0) (C := RX12) (T := TX12) (N := 55) hx hb hts iw_X12_cause_X12 hown hKX.1 hP 0 rfl rfl 5 (by decide) (hts (.fieldLink RX12 158 "TrainFerryModel" "sea" "I") (by decide +kernel)) (fun _ h9 => h9) rfl dX12_cause_1 ?_
  refine lv_iconst (v := 5) hx hb dX12_cause_4 (by decide) ?_
  refine lv_icmp_ne (tgt := 12) hx hb dX12_cause_5 (by decide) (fun _ => ?_) (fun c9 => absurd c9 (by decide))
  refine lv_iload_n hx hb dX12_cause_12 rfl (lv_at hl 2 rfl) ?_
  refine lv_if_ne (tgt := 20) hx hb dX12_cause_13 (by decide) (fun c9 => absurd (by decide) c9) (fun _ => ?_)
  refine lv_iconst (v := 1) hx hb dX12_cause_16 (by decide) ?_
  refine lv_goto (tgt := 33) hx hb dX12_cause_17 (by decide) ?_
  exact en_i hx hb hr hlocks () rfl trivial (hP.sub [0] rfl) (hD.sub [0] (by decide) rfl) hS (Nat.le_of_ble_eq_true rfl) (Nat.le_of_ble_eq_true rfl) dX12_cause_33
set_option maxHeartbeats 4000000 in
set_option maxRecDepth 100000 in
theorem c_cause_1 (l : Launch) (D : va_G) (cy : Nat → ClassId) (mh : Nat) (mq : Nat → Nat) (nw : Int32) (sz : Nat) : Met l yX12_cause wsX12_cause ({ frames := 0, cells := 0, slots := 0, locals := 0 }) (wPre D cy [.ref mh, .int 1, .int 0] sz [(mh, .inr (12, [.int 0, .int 100, .int 200, .int 5, .int 100, .int 0, .int nw, .int 0, .int 0, .int 0, .int 0, .ref (mq 0), .int 0, .ref (mq 1), .ref (mq 2), .ref (mq 3), .ref (mq 4), .ref (mq 5), .ref (mq 6), .ref (mq 7), .ref (mq 8), .ref (mq 9), .ref (mq 10), .int 0, .ref (mq 11), .ref (mq 12), .ref (mq 13), .int 0, .ref (mq 14), .ref (mq 15), .ref (mq 16), .ref (mq 17), .ref (mq 18), .int 0, .int 0, .int 0, .int 0, .int 0, .int 0, .int 0, .int (-1), .ref (mq 19), .ref (mq 20), .ref (mq 21), .ref (mq 22), .ref (mq 23), .ref (mq 24), .int 0, .int 0, .int 0, .ref (mq 25), .ref (mq 26), .ref (mq 27), .ref (mq 28), .ref (mq 29)]))]) (wQi D 1 (fun _ : Unit => True) (fun _u : Unit => [(mh, .inr (12, [.int 0, .int 100, .int 200, .int 5, .int 100, .int 0, .int nw, .int 0, .int 0, .int 0, .int 0, .ref (mq 0), .int 0, .ref (mq 1), .ref (mq 2), .ref (mq 3), .ref (mq 4), .ref (mq 5), .ref (mq 6), .ref (mq 7), .ref (mq 8), .ref (mq 9), .ref (mq 10), .int 0, .ref (mq 11), .ref (mq 12), .ref (mq 13), .int 0, .ref (mq 14), .ref (mq 15), .ref (mq 16), .ref (mq 17), .ref (mq 18), .int 0, .int 0, .int 0, .int 0, .int 0, .int 0, .int 0, .int (-1), .ref (mq 19), .ref (mq 20), .ref (mq 21), .ref (mq 22), .ref (mq 23), .ref (mq 24), .int 0, .int 0, .int 0, .ref (mq 25), .ref (mq 26), .ref (mq 27), .ref (mq 28), .ref (mq 29)]))]) (va_A [(mh, .inr (12, [.int 0, .int 100, .int 200, .int 5, .int 100, .int 0, .int nw, .int 0, .int 0, .int 0, .int 0, .ref (mq 0), .int 0, .ref (mq 1), .ref (mq 2), .ref (mq 3), .ref (mq 4), .ref (mq 5), .ref (mq 6), .ref (mq 7), .ref (mq 8), .ref (mq 9), .ref (mq 10), .int 0, .ref (mq 11), .ref (mq 12), .ref (mq 13), .int 0, .ref (mq 14), .ref (mq 15), .ref (mq 16), .ref (mq 17), .ref (mq 18), .int 0, .int 0, .int 0, .int 0, .int 0, .int 0, .int 0, .int (-1), .ref (mq 19), .ref (mq 20), .ref (mq 21), .ref (mq 22), .ref (mq 23), .ref (mq 24), .int 0, .int 0, .int 0, .ref (mq 25), .ref (mq 26), .ref (mq 27), .ref (mq 28), .ref (mq 29)]))] sz)) 0 0 (va_A [(mh, .inr (12, [.int 0, .int 100, .int 200, .int 5, .int 100, .int 0, .int nw, .int 0, .int 0, .int 0, .int 0, .ref (mq 0), .int 0, .ref (mq 1), .ref (mq 2), .ref (mq 3), .ref (mq 4), .ref (mq 5), .ref (mq 6), .ref (mq 7), .ref (mq 8), .ref (mq 9), .ref (mq 10), .int 0, .ref (mq 11), .ref (mq 12), .ref (mq 13), .int 0, .ref (mq 14), .ref (mq 15), .ref (mq 16), .ref (mq 17), .ref (mq 18), .int 0, .int 0, .int 0, .int 0, .int 0, .int 0, .int 0, .int (-1), .ref (mq 19), .ref (mq 20), .ref (mq 21), .ref (mq 22), .ref (mq 23), .ref (mq 24), .int 0, .int 0, .int 0, .ref (mq 25), .ref (mq 26), .ref (mq 27), .ref (mq 28), .ref (mq 29)]))] sz) := by
  refine met_go (y := yX12_cause) (ws := wsX12_cause) (av := [.ref mh, .int 1, .int 0]) (cc := cX12_cause) (maxL := 3) (ret := (some .int)) (Qc := fun A => wQi D 1 (fun _ : Unit => True) (fun _u : Unit => [(mh, .inr (12, [.int 0, .int 100, .int 200, .int 5, .int 100, .int 0, .int nw, .int 0, .int 0, .int 0, .int 0, .ref (mq 0), .int 0, .ref (mq 1), .ref (mq 2), .ref (mq 3), .ref (mq 4), .ref (mq 5), .ref (mq 6), .ref (mq 7), .ref (mq 8), .ref (mq 9), .ref (mq 10), .int 0, .ref (mq 11), .ref (mq 12), .ref (mq 13), .int 0, .ref (mq 14), .ref (mq 15), .ref (mq 16), .ref (mq 17), .ref (mq 18), .int 0, .int 0, .int 0, .int 0, .int 0, .int 0, .int 0, .int (-1), .ref (mq 19), .ref (mq 20), .ref (mq 21), .ref (mq 22), .ref (mq 23), .ref (mq 24), .int 0, .int 0, .int 0, .ref (mq 25), .ref (mq 26), .ref (mq 27), .ref (mq 28), .ref (mq 29)]))]) A) (by decide) rfl (Nat.le_of_ble_eq_true rfl) ?_
  intro p e s m below meth c ls A hx hb hr hml hown hts hlocks hname hKX hP hD hA hS hl
  have hown : s.vm.findClass RX12 = some m.cls := hown
  have hl : lv_has ls 3 [(0, .ref mh), (1, .int 1), (2, .int 0)] := hl
  refine lv_aload_n hx hb dX12_cause_0 rfl (lv_at hl 0 rfl) ?_
  refine va_get (D := D) (ci := 12) (v := .int 0) (C := RX12) (T := TX12) (N := 55) hx hb hts iw_X12_cause_X12 hown hKX.1 hP 0 rfl rfl 5 (by decide) (hts (.fieldLink RX12 158 "TrainFerryModel" "sea" "I") (by decide +kernel)) (fun _ h9 => h9) rfl dX12_cause_1 ?_
  refine lv_iconst (v := 5) hx hb dX12_cause_4 (by decide) ?_
  refine lv_icmp_ne (tgt := 12) hx hb dX12_cause_5 (by decide) (fun _ => ?_) (fun c9 => absurd c9 (by decide))
  refine lv_iload_n hx hb dX12_cause_12 rfl (lv_at hl 2 rfl) ?_
  refine lv_if_ne (tgt := 20) hx hb dX12_cause_13 (by decide) (fun c9 => absurd (by decide) c9) (fun _ => ?_)
  refine lv_iconst (v := 1) hx hb dX12_cause_16 (by decide) ?_
  refine lv_goto (tgt := 33) hx hb dX12_cause_17 (by decide) ?_
  exact en_i hx hb hr hlocks () rfl trivial (hP.sub [0] rfl) (hD.sub [0] (by decide) rfl) hS (Nat.le_of_ble_eq_true rfl) (Nat.le_of_ble_eq_true rfl) dX12_cause_33
theorem iw_X12_goes_X12 : ∀ w ∈ wsX120, w ∈ wsX12_goes := by decide +kernel
set_option maxHeartbeats 4000000 in
set_option maxRecDepth 100000 in
theorem c_goes (l : Launch) (D : va_G) (cy : Nat → ClassId) (mh : Nat) (mq : Nat → Nat) (nw : Int32) (sz : Nat) : Met l yX12_goes wsX12_goes ({ frames := 1, cells := 0, slots := 0, locals := 23 }) (wPre D cy [.ref mh] sz [(mh, .inr (12, [.int 0, .int 100, .int 200, .int 5, .int 100, .int 0, .int nw, .int 0, .int 0, .int 0, .int 0, .ref (mq 0), .int 0, .ref (mq 1), .ref (mq 2), .ref (mq 3), .ref (mq 4), .ref (mq 5), .ref (mq 6), .ref (mq 7), .ref (mq 8), .ref (mq 9), .ref (mq 10), .int 0, .ref (mq 11), .ref (mq 12), .ref (mq 13), .int 0, .ref (mq 14), .ref (mq 15), .ref (mq 16), .ref (mq 17), .ref (mq 18), .int 0, .int 0, .int 0, .int 0, .int 0, .int 0, .int 0, .int (-1), .ref (mq 19), .ref (mq 20), .ref (mq 21), .ref (mq 22), .ref (mq 23), .ref (mq 24), .int 0, .int 0, .int 0, .ref (mq 25), .ref (mq 26), .ref (mq 27), .ref (mq 28), .ref (mq 29)])), (mc11 cy mh mq)]) (wQv D (fun _ : Unit => True) (fun _u : Unit => [(mc11 cy mh mq), (mh, .inr (12, [.int 0, .int 100, .int 200, .int 5, .int 100, .int 0, .int (nw + 1), .int 0, .int 0, .int 0, .int 0, .ref (mq 0), .int 0, .ref (mq 1), .ref (mq 2), .ref (mq 3), .ref (mq 4), .ref (mq 5), .ref (mq 6), .ref (mq 7), .ref (mq 8), .ref (mq 9), .ref (mq 10), .int 0, .ref (mq 11), .ref (mq 12), .ref (mq 13), .int 0, .ref (mq 14), .ref (mq 15), .ref (mq 16), .ref (mq 17), .ref (mq 18), .int 0, .int 0, .int 0, .int 0, .int 0, .int 0, .int 0, .int (-1), .ref (mq 19), .ref (mq 20), .ref (mq 21), .ref (mq 22), .ref (mq 23), .ref (mq 24), .int 0, .int 0, .int 0, .ref (mq 25), .ref (mq 26), .ref (mq 27), .ref (mq 28), .ref (mq 29)]))]) (va_A [(mh, .inr (12, [.int 0, .int 100, .int 200, .int 5, .int 100, .int 0, .int nw, .int 0, .int 0, .int 0, .int 0, .ref (mq 0), .int 0, .ref (mq 1), .ref (mq 2), .ref (mq 3), .ref (mq 4), .ref (mq 5), .ref (mq 6), .ref (mq 7), .ref (mq 8), .ref (mq 9), .ref (mq 10), .int 0, .ref (mq 11), .ref (mq 12), .ref (mq 13), .int 0, .ref (mq 14), .ref (mq 15), .ref (mq 16), .ref (mq 17), .ref (mq 18), .int 0, .int 0, .int 0, .int 0, .int 0, .int 0, .int 0, .int (-1), .ref (mq 19), .ref (mq 20), .ref (mq 21), .ref (mq 22), .ref (mq 23), .ref (mq 24), .int 0, .int 0, .int 0, .ref (mq 25), .ref (mq 26), .ref (mq 27), .ref (mq 28), .ref (mq 29)])), (mc11 cy mh mq)] sz)) 0 0 (va_A [(mh, .inr (12, [.int 0, .int 100, .int 200, .int 5, .int 100, .int 0, .int nw, .int 0, .int 0, .int 0, .int 0, .ref (mq 0), .int 0, .ref (mq 1), .ref (mq 2), .ref (mq 3), .ref (mq 4), .ref (mq 5), .ref (mq 6), .ref (mq 7), .ref (mq 8), .ref (mq 9), .ref (mq 10), .int 0, .ref (mq 11), .ref (mq 12), .ref (mq 13), .int 0, .ref (mq 14), .ref (mq 15), .ref (mq 16), .ref (mq 17), .ref (mq 18), .int 0, .int 0, .int 0, .int 0, .int 0, .int 0, .int 0, .int (-1), .ref (mq 19), .ref (mq 20), .ref (mq 21), .ref (mq 22), .ref (mq 23), .ref (mq 24), .int 0, .int 0, .int 0, .ref (mq 25), .ref (mq 26), .ref (mq 27), .ref (mq 28), .ref (mq 29)])), (mc11 cy mh mq)] sz) := by
  refine met_go (y := yX12_goes) (ws := wsX12_goes) (av := [.ref mh]) (cc := cX12_goes) (maxL := 8) (ret := none) (Qc := fun A => wQv D (fun _ : Unit => True) (fun _u : Unit => [(mc11 cy mh mq), (mh, .inr (12, [.int 0, .int 100, .int 200, .int 5, .int 100, .int 0, .int (nw + 1), .int 0, .int 0, .int 0, .int 0, .ref (mq 0), .int 0, .ref (mq 1), .ref (mq 2), .ref (mq 3), .ref (mq 4), .ref (mq 5), .ref (mq 6), .ref (mq 7), .ref (mq 8), .ref (mq 9), .ref (mq 10), .int 0, .ref (mq 11), .ref (mq 12), .ref (mq 13), .int 0, .ref (mq 14), .ref (mq 15), .ref (mq 16), .ref (mq 17), .ref (mq 18), .int 0, .int 0, .int 0, .int 0, .int 0, .int 0, .int 0, .int (-1), .ref (mq 19), .ref (mq 20), .ref (mq 21), .ref (mq 22), .ref (mq 23), .ref (mq 24), .int 0, .int 0, .int 0, .ref (mq 25), .ref (mq 26), .ref (mq 27), .ref (mq 28), .ref (mq 29)]))]) A) (by decide) rfl (Nat.le_of_ble_eq_true rfl) ?_
  intro p e s m below meth c ls A hx hb hr hml hown hts hlocks hname hKX hP hD hA hS hl
  have hown : s.vm.findClass RX12 = some m.cls := hown
  have hl : lv_has ls 8 [(0, .ref mh)] := hl
  refine lv_aload_n hx hb dX12_goes_0 rfl (lv_at hl 0 rfl) ?_
  refine cl_i (wr := [(mc11 cy mh mq)]) (va_runV (As := []) (rest := []) ⟨hx, hb, hml, hown, hts⟩ (c_M_inForce l D cy mh mq nw _) (cwV 0 hts gX12_goes_X12_inForce rfl rfl rfl (by decide +kernel) ⟨(Nat.le_of_ble_eq_true rfl), (Nat.le_of_ble_eq_true rfl)⟩) (pre_V hKX hP hD (ci := 12) (q0 := 0) rfl rfl [0] rfl (by decide) rfl) rfl rfl hl.1 rfl (lv_room (Nat.le_of_ble_eq_true rfl)) dX12_goes_1 ⟨(Nat.le_of_ble_eq_true rfl), (Nat.le_of_ble_eq_true rfl)⟩) hP hD hS hA [0] [1] rfl rfl (by decide) (by decide) (fun u1 H locs _ hP hD hS => ?_)
  have hP : va_P D vwCl [(mc11 cy mh mq), (mh, .inr (12, [.int 0, .int 100, .int 200, .int 5, .int 100, .int 0, .int nw, .int 0, .int 0, .int 0, .int 0, .ref (mq 0), .int 0, .ref (mq 1), .ref (mq 2), .ref (mq 3), .ref (mq 4), .ref (mq 5), .ref (mq 6), .ref (mq 7), .ref (mq 8), .ref (mq 9), .ref (mq 10), .int 0, .ref (mq 11), .ref (mq 12), .ref (mq 13), .int 0, .ref (mq 14), .ref (mq 15), .ref (mq 16), .ref (mq 17), .ref (mq 18), .int 0, .int 0, .int 0, .int 0, .int 0, .int 0, .int 0, .int (-1), .ref (mq 19), .ref (mq 20), .ref (mq 21), .ref (mq 22), .ref (mq 23), .ref (mq 24), .int 0, .int 0, .int 0, .ref (mq 25), .ref (mq 26), .ref (mq 27), .ref (mq 28), .ref (mq 29)]))] H := hP
  have hD : va_D A [(mc11 cy mh mq), (mh, .inr (12, [.int 0, .int 100, .int 200, .int 5, .int 100, .int 0, .int nw, .int 0, .int 0, .int 0, .int 0, .ref (mq 0), .int 0, .ref (mq 1), .ref (mq 2), .ref (mq 3), .ref (mq 4), .ref (mq 5), .ref (mq 6), .ref (mq 7), .ref (mq 8), .ref (mq 9), .ref (mq 10), .int 0, .ref (mq 11), .ref (mq 12), .ref (mq 13), .int 0, .ref (mq 14), .ref (mq 15), .ref (mq 16), .ref (mq 17), .ref (mq 18), .int 0, .int 0, .int 0, .int 0, .int 0, .int 0, .int 0, .int (-1), .ref (mq 19), .ref (mq 20), .ref (mq 21), .ref (mq 22), .ref (mq 23), .ref (mq 24), .int 0, .int 0, .int 0, .ref (mq 25), .ref (mq 26), .ref (mq 27), .ref (mq 28), .ref (mq 29)]))] := hD
  refine lv_istore_n (lv' := [(1, .int (-1)), (0, .ref mh)]) hx hb dX12_goes_4 rfl hl (by decide) rfl (fun ls hl => ?_)
  refine lv_iconst (v := 0) hx hb dX12_goes_5 (by decide) ?_
  refine lv_istore_n (lv' := [(2, .int 0), (1, .int (-1)), (0, .ref mh)]) hx hb dX12_goes_6 rfl hl (by decide) rfl (fun ls hl => ?_)
  refine lv_iload_n hx hb dX12_goes_7 rfl (lv_at hl 0 rfl) ?_
  refine lv_iconst (v := 2) hx hb dX12_goes_8 (by decide) ?_
  refine lv_icmp_ge (tgt := 117) hx hb dX12_goes_9 (by decide) (fun c9 => absurd c9 (by decide)) (fun _ => ?_)
  refine lv_aload_n hx hb dX12_goes_12 rfl (lv_at hl 2 rfl) ?_
  refine lv_iload_n hx hb dX12_goes_13 rfl (lv_at hl 0 rfl) ?_
  refine lv_aload_n hx hb dX12_goes_14 rfl (lv_at hl 2 rfl) ?_
  refine lv_iload_n hx hb dX12_goes_15 rfl (lv_at hl 0 rfl) ?_
  refine cl_i (wr := [(mc11 cy mh mq)]) (va_runV (As := [.int 0]) (rest := [.int 0, .ref mh]) ⟨hx, hb, hml, hown, hts⟩ (c_isRampOpen l D cy mh mq nw 0 0 _) (cwV 1 hts gX12_goes_X12_isRampOpen rfl rfl rfl (by decide +kernel) ⟨(Nat.le_of_ble_eq_true rfl), (Nat.le_of_ble_eq_true rfl)⟩) (pre_V hKX hP hD (ci := 12) (q0 := 1) rfl rfl [1] rfl (by decide) rfl) rfl rfl hl.1 rfl (lv_room (Nat.le_of_ble_eq_true rfl)) dX12_goes_16 ⟨(Nat.le_of_ble_eq_true rfl), (Nat.le_of_ble_eq_true rfl)⟩) hP hD hS hA [1] [0] rfl rfl (by decide) (by decide) (fun u2 H locs _ hP hD hS => ?_)
  have hP : va_P D vwCl [(mc11 cy mh mq), (mh, .inr (12, [.int 0, .int 100, .int 200, .int 5, .int 100, .int 0, .int nw, .int 0, .int 0, .int 0, .int 0, .ref (mq 0), .int 0, .ref (mq 1), .ref (mq 2), .ref (mq 3), .ref (mq 4), .ref (mq 5), .ref (mq 6), .ref (mq 7), .ref (mq 8), .ref (mq 9), .ref (mq 10), .int 0, .ref (mq 11), .ref (mq 12), .ref (mq 13), .int 0, .ref (mq 14), .ref (mq 15), .ref (mq 16), .ref (mq 17), .ref (mq 18), .int 0, .int 0, .int 0, .int 0, .int 0, .int 0, .int 0, .int (-1), .ref (mq 19), .ref (mq 20), .ref (mq 21), .ref (mq 22), .ref (mq 23), .ref (mq 24), .int 0, .int 0, .int 0, .ref (mq 25), .ref (mq 26), .ref (mq 27), .ref (mq 28), .ref (mq 29)]))] H := hP
  have hD : va_D A [(mc11 cy mh mq), (mh, .inr (12, [.int 0, .int 100, .int 200, .int 5, .int 100, .int 0, .int nw, .int 0, .int 0, .int 0, .int 0, .ref (mq 0), .int 0, .ref (mq 1), .ref (mq 2), .ref (mq 3), .ref (mq 4), .ref (mq 5), .ref (mq 6), .ref (mq 7), .ref (mq 8), .ref (mq 9), .ref (mq 10), .int 0, .ref (mq 11), .ref (mq 12), .ref (mq 13), .int 0, .ref (mq 14), .ref (mq 15), .ref (mq 16), .ref (mq 17), .ref (mq 18), .int 0, .int 0, .int 0, .int 0, .int 0, .int 0, .int 0, .int (-1), .ref (mq 19), .ref (mq 20), .ref (mq 21), .ref (mq 22), .ref (mq 23), .ref (mq 24), .int 0, .int 0, .int 0, .ref (mq 25), .ref (mq 26), .ref (mq 27), .ref (mq 28), .ref (mq 29)]))] := hD
  refine cl_i (wr := [(mc11 cy mh mq)]) (va_runV (As := [.int 0, .int 0]) (rest := []) ⟨hx, hb, hml, hown, hts⟩ (c_cause_0 l D cy mh mq nw _) (cwV 2 hts gX12_goes_X12_cause rfl rfl rfl (by decide +kernel) ⟨(Nat.le_of_ble_eq_true rfl), (Nat.le_of_ble_eq_true rfl)⟩) (pre_V hKX hP hD (ci := 12) (q0 := 1) rfl rfl [1] rfl (by decide) rfl) rfl rfl hl.1 rfl (lv_room (Nat.le_of_ble_eq_true rfl)) dX12_goes_19 ⟨(Nat.le_of_ble_eq_true rfl), (Nat.le_of_ble_eq_true rfl)⟩) hP hD hS hA [1] [0] rfl rfl (by decide) (by decide) (fun u3 H locs _ hP hD hS => ?_)
  have hP : va_P D vwCl [(mc11 cy mh mq), (mh, .inr (12, [.int 0, .int 100, .int 200, .int 5, .int 100, .int 0, .int nw, .int 0, .int 0, .int 0, .int 0, .ref (mq 0), .int 0, .ref (mq 1), .ref (mq 2), .ref (mq 3), .ref (mq 4), .ref (mq 5), .ref (mq 6), .ref (mq 7), .ref (mq 8), .ref (mq 9), .ref (mq 10), .int 0, .ref (mq 11), .ref (mq 12), .ref (mq 13), .int 0, .ref (mq 14), .ref (mq 15), .ref (mq 16), .ref (mq 17), .ref (mq 18), .int 0, .int 0, .int 0, .int 0, .int 0, .int 0, .int 0, .int (-1), .ref (mq 19), .ref (mq 20), .ref (mq 21), .ref (mq 22), .ref (mq 23), .ref (mq 24), .int 0, .int 0, .int 0, .ref (mq 25), .ref (mq 26), .ref (mq 27), .ref (mq 28), .ref (mq 29)]))] H := hP
  have hD : va_D A [(mc11 cy mh mq), (mh, .inr (12, [.int 0, .int 100, .int 200, .int 5, .int 100, .int 0, .int nw, .int 0, .int 0, .int 0, .int 0, .ref (mq 0), .int 0, .ref (mq 1), .ref (mq 2), .ref (mq 3), .ref (mq 4), .ref (mq 5), .ref (mq 6), .ref (mq 7), .ref (mq 8), .ref (mq 9), .ref (mq 10), .int 0, .ref (mq 11), .ref (mq 12), .ref (mq 13), .int 0, .ref (mq 14), .ref (mq 15), .ref (mq 16), .ref (mq 17), .ref (mq 18), .int 0, .int 0, .int 0, .int 0, .int 0, .int 0, .int 0, .int (-1), .ref (mq 19), .ref (mq 20), .ref (mq 21), .ref (mq 22), .ref (mq 23), .ref (mq 24), .int 0, .int 0, .int 0, .ref (mq 25), .ref (mq 26), .ref (mq 27), .ref (mq 28), .ref (mq 29)]))] := hD
  refine lv_istore_n (lv' := [(3, .int 1), (2, .int 0), (1, .int (-1)), (0, .ref mh)]) hx hb dX12_goes_22 rfl hl (by decide) rfl (fun ls hl => ?_)
  refine lv_iconst (v := 0) hx hb dX12_goes_23 (by decide) ?_
  refine lv_istore (lv' := [(4, .int 0), (3, .int 1), (2, .int 0), (1, .int (-1)), (0, .ref mh)]) hx hb dX12_goes_24 hl (by decide) rfl (fun ls hl => ?_)
  refine lv_iload hx hb dX12_goes_26 (lv_at hl 0 rfl) ?_
  refine lv_iconst (v := 3) hx hb dX12_goes_28 (by decide) ?_
  refine lv_icmp_ge (tgt := 111) hx hb dX12_goes_29 (by decide) (fun c9 => absurd c9 (by decide)) (fun _ => ?_)
  refine lv_iload_n hx hb dX12_goes_32 rfl (lv_at hl 2 rfl) ?_
  refine lv_iload hx hb dX12_goes_33 (lv_at hl 0 rfl) ?_
  refine cl_i (wr := [(mc11 cy mh mq), (mh, .inr (12, [.int 0, .int 100, .int 200, .int 5, .int 100, .int 0, .int nw, .int 0, .int 0, .int 0, .int 0, .ref (mq 0), .int 0, .ref (mq 1), .ref (mq 2), .ref (mq 3), .ref (mq 4), .ref (mq 5), .ref (mq 6), .ref (mq 7), .ref (mq 8), .ref (mq 9), .ref (mq 10), .int 0, .ref (mq 11), .ref (mq 12), .ref (mq 13), .int 0, .ref (mq 14), .ref (mq 15), .ref (mq 16), .ref (mq 17), .ref (mq 18), .int 0, .int 0, .int 0, .int 0, .int 0, .int 0, .int 0, .int (-1), .ref (mq 19), .ref (mq 20), .ref (mq 21), .ref (mq 22), .ref (mq 23), .ref (mq 24), .int 0, .int 0, .int 0, .ref (mq 25), .ref (mq 26), .ref (mq 27), .ref (mq 28), .ref (mq 29)]))]) (va_runS (As := [.int 0, .int 0]) (rest := []) ⟨hx, hb, hml, hown, hts⟩ (c_M_yardRow l D cy 0 0 _) (va_cwS 2 hts gX12_goes_X12_yardRow rfl rfl rfl (by decide +kernel) ⟨(Nat.le_of_ble_eq_true rfl), (Nat.le_of_ble_eq_true rfl)⟩) (pre_S hKX hP hD [] rfl (by decide) rfl) rfl rfl hl.1 rfl (lv_room (Nat.le_of_ble_eq_true rfl)) dX12_goes_35 ⟨(Nat.le_of_ble_eq_true rfl), (Nat.le_of_ble_eq_true rfl)⟩) hP hD hS hA [] [0, 1] rfl rfl (by decide) (by decide) (fun u4 H locs _ hP hD hS => ?_)
  have hP : va_P D vwCl [(mc11 cy mh mq), (mh, .inr (12, [.int 0, .int 100, .int 200, .int 5, .int 100, .int 0, .int nw, .int 0, .int 0, .int 0, .int 0, .ref (mq 0), .int 0, .ref (mq 1), .ref (mq 2), .ref (mq 3), .ref (mq 4), .ref (mq 5), .ref (mq 6), .ref (mq 7), .ref (mq 8), .ref (mq 9), .ref (mq 10), .int 0, .ref (mq 11), .ref (mq 12), .ref (mq 13), .int 0, .ref (mq 14), .ref (mq 15), .ref (mq 16), .ref (mq 17), .ref (mq 18), .int 0, .int 0, .int 0, .int 0, .int 0, .int 0, .int 0, .int (-1), .ref (mq 19), .ref (mq 20), .ref (mq 21), .ref (mq 22), .ref (mq 23), .ref (mq 24), .int 0, .int 0, .int 0, .ref (mq 25), .ref (mq 26), .ref (mq 27), .ref (mq 28), .ref (mq 29)]))] H := hP
  have hD : va_D A [(mc11 cy mh mq), (mh, .inr (12, [.int 0, .int 100, .int 200, .int 5, .int 100, .int 0, .int nw, .int 0, .int 0, .int 0, .int 0, .ref (mq 0), .int 0, .ref (mq 1), .ref (mq 2), .ref (mq 3), .ref (mq 4), .ref (mq 5), .ref (mq 6), .ref (mq 7), .ref (mq 8), .ref (mq 9), .ref (mq 10), .int 0, .ref (mq 11), .ref (mq 12), .ref (mq 13), .int 0, .ref (mq 14), .ref (mq 15), .ref (mq 16), .ref (mq 17), .ref (mq 18), .int 0, .int 0, .int 0, .int 0, .int 0, .int 0, .int 0, .int (-1), .ref (mq 19), .ref (mq 20), .ref (mq 21), .ref (mq 22), .ref (mq 23), .ref (mq 24), .int 0, .int 0, .int 0, .ref (mq 25), .ref (mq 26), .ref (mq 27), .ref (mq 28), .ref (mq 29)]))] := hD
  refine lv_cst 4 (by decide) ?_
  refine lv_istore (lv' := [(5, .int 4), (4, .int 0), (3, .int 1), (2, .int 0), (1, .int (-1)), (0, .ref mh)]) hx hb dX12_goes_38 hl (by decide) rfl (fun ls hl => ?_)
  refine lv_iconst (v := 0) hx hb dX12_goes_40 (by decide) ?_
  refine lv_istore (lv' := [(6, .int 0), (5, .int 4), (4, .int 0), (3, .int 1), (2, .int 0), (1, .int (-1)), (0, .ref mh)]) hx hb dX12_goes_41 hl (by decide) rfl (fun ls hl => ?_)
  refine lv_iload hx hb dX12_goes_43 (lv_at hl 0 rfl) ?_
  refine lv_aload_n hx hb dX12_goes_45 rfl (lv_at hl 6 rfl) ?_
  refine va_get (D := D) (ci := 12) (v := .ref (mq 10)) (C := RX12) (T := TX12) (N := 55) hx hb hts iw_X12_goes_X12 hown hKX.1 hP 1 rfl rfl 22 (by decide) (hts (.fieldLink RX12 58 "TrainFerryModel" "many" "[I") (by decide +kernel)) (fun _ h9 => h9) rfl dX12_goes_46 ?_
  refine lv_iload hx hb dX12_goes_49 (lv_at hl 1 rfl) ?_
  refine va_iald hx hb hKX.1 hP 0 0 rfl rfl (vind (by decide)) dX12_goes_51 ?_
  refine lv_cst 0 rfl ?_
  refine lv_icmp_ge (tgt := 105) hx hb dX12_goes_52 (by decide) (fun _ => ?_) (fun c9 => absurd (by decide) c9)
  refine lv_iinc (v := 1) (lv' := [(4, .int 1), (6, .int 0), (5, .int 4), (3, .int 1), (2, .int 0), (1, .int (-1)), (0, .ref mh)]) hx hb dX12_goes_105 hl (k := 2) rfl (by decide) (by decide) rfl (fun ls hl => ?_)
  refine lv_goto (tgt := 26) hx hb dX12_goes_108 (by decide) ?_
  refine lv_iload hx hb dX12_goes_26 (lv_at hl 0 rfl) ?_
  refine lv_iconst (v := 3) hx hb dX12_goes_28 (by decide) ?_
  refine lv_icmp_ge (tgt := 111) hx hb dX12_goes_29 (by decide) (fun c9 => absurd c9 (by decide)) (fun _ => ?_)
  refine lv_iload_n hx hb dX12_goes_32 rfl (lv_at hl 4 rfl) ?_
  refine lv_iload hx hb dX12_goes_33 (lv_at hl 0 rfl) ?_
  refine cl_i (wr := [(mc11 cy mh mq), (mh, .inr (12, [.int 0, .int 100, .int 200, .int 5, .int 100, .int 0, .int nw, .int 0, .int 0, .int 0, .int 0, .ref (mq 0), .int 0, .ref (mq 1), .ref (mq 2), .ref (mq 3), .ref (mq 4), .ref (mq 5), .ref (mq 6), .ref (mq 7), .ref (mq 8), .ref (mq 9), .ref (mq 10), .int 0, .ref (mq 11), .ref (mq 12), .ref (mq 13), .int 0, .ref (mq 14), .ref (mq 15), .ref (mq 16), .ref (mq 17), .ref (mq 18), .int 0, .int 0, .int 0, .int 0, .int 0, .int 0, .int 0, .int (-1), .ref (mq 19), .ref (mq 20), .ref (mq 21), .ref (mq 22), .ref (mq 23), .ref (mq 24), .int 0, .int 0, .int 0, .ref (mq 25), .ref (mq 26), .ref (mq 27), .ref (mq 28), .ref (mq 29)]))]) (va_runS (As := [.int 0, .int 1]) (rest := []) ⟨hx, hb, hml, hown, hts⟩ (c_M_yardRow l D cy 0 1 _) (va_cwS 2 hts gX12_goes_X12_yardRow rfl rfl rfl (by decide +kernel) ⟨(Nat.le_of_ble_eq_true rfl), (Nat.le_of_ble_eq_true rfl)⟩) (pre_S hKX hP hD [] rfl (by decide) rfl) rfl rfl hl.1 rfl (lv_room (Nat.le_of_ble_eq_true rfl)) dX12_goes_35 ⟨(Nat.le_of_ble_eq_true rfl), (Nat.le_of_ble_eq_true rfl)⟩) hP hD hS hA [] [0, 1] rfl rfl (by decide) (by decide) (fun u5 H locs _ hP hD hS => ?_)
  have hP : va_P D vwCl [(mc11 cy mh mq), (mh, .inr (12, [.int 0, .int 100, .int 200, .int 5, .int 100, .int 0, .int nw, .int 0, .int 0, .int 0, .int 0, .ref (mq 0), .int 0, .ref (mq 1), .ref (mq 2), .ref (mq 3), .ref (mq 4), .ref (mq 5), .ref (mq 6), .ref (mq 7), .ref (mq 8), .ref (mq 9), .ref (mq 10), .int 0, .ref (mq 11), .ref (mq 12), .ref (mq 13), .int 0, .ref (mq 14), .ref (mq 15), .ref (mq 16), .ref (mq 17), .ref (mq 18), .int 0, .int 0, .int 0, .int 0, .int 0, .int 0, .int 0, .int (-1), .ref (mq 19), .ref (mq 20), .ref (mq 21), .ref (mq 22), .ref (mq 23), .ref (mq 24), .int 0, .int 0, .int 0, .ref (mq 25), .ref (mq 26), .ref (mq 27), .ref (mq 28), .ref (mq 29)]))] H := hP
  have hD : va_D A [(mc11 cy mh mq), (mh, .inr (12, [.int 0, .int 100, .int 200, .int 5, .int 100, .int 0, .int nw, .int 0, .int 0, .int 0, .int 0, .ref (mq 0), .int 0, .ref (mq 1), .ref (mq 2), .ref (mq 3), .ref (mq 4), .ref (mq 5), .ref (mq 6), .ref (mq 7), .ref (mq 8), .ref (mq 9), .ref (mq 10), .int 0, .ref (mq 11), .ref (mq 12), .ref (mq 13), .int 0, .ref (mq 14), .ref (mq 15), .ref (mq 16), .ref (mq 17), .ref (mq 18), .int 0, .int 0, .int 0, .int 0, .int 0, .int 0, .int 0, .int (-1), .ref (mq 19), .ref (mq 20), .ref (mq 21), .ref (mq 22), .ref (mq 23), .ref (mq 24), .int 0, .int 0, .int 0, .ref (mq 25), .ref (mq 26), .ref (mq 27), .ref (mq 28), .ref (mq 29)]))] := hD
  refine lv_cst 5 (by decide) ?_
  refine lv_istore (lv' := [(5, .int 5), (4, .int 1), (6, .int 0), (3, .int 1), (2, .int 0), (1, .int (-1)), (0, .ref mh)]) hx hb dX12_goes_38 hl (by decide) rfl (fun ls hl => ?_)
  refine lv_iconst (v := 0) hx hb dX12_goes_40 (by decide) ?_
  refine lv_istore (lv' := [(6, .int 0), (5, .int 5), (4, .int 1), (3, .int 1), (2, .int 0), (1, .int (-1)), (0, .ref mh)]) hx hb dX12_goes_41 hl (by decide) rfl (fun ls hl => ?_)
  refine lv_iload hx hb dX12_goes_43 (lv_at hl 0 rfl) ?_
  refine lv_aload_n hx hb dX12_goes_45 rfl (lv_at hl 6 rfl) ?_
  refine va_get (D := D) (ci := 12) (v := .ref (mq 10)) (C := RX12) (T := TX12) (N := 55) hx hb hts iw_X12_goes_X12 hown hKX.1 hP 1 rfl rfl 22 (by decide) (hts (.fieldLink RX12 58 "TrainFerryModel" "many" "[I") (by decide +kernel)) (fun _ h9 => h9) rfl dX12_goes_46 ?_
  refine lv_iload hx hb dX12_goes_49 (lv_at hl 1 rfl) ?_
  refine va_iald hx hb hKX.1 hP 0 0 rfl rfl (vind (by decide)) dX12_goes_51 ?_
  refine lv_cst 0 rfl ?_
  refine lv_icmp_ge (tgt := 105) hx hb dX12_goes_52 (by decide) (fun _ => ?_) (fun c9 => absurd (by decide) c9)
  refine lv_iinc (v := 2) (lv' := [(4, .int 2), (6, .int 0), (5, .int 5), (3, .int 1), (2, .int 0), (1, .int (-1)), (0, .ref mh)]) hx hb dX12_goes_105 hl (k := 2) rfl (by decide) (by decide) rfl (fun ls hl => ?_)
  refine lv_goto (tgt := 26) hx hb dX12_goes_108 (by decide) ?_
  refine lv_iload hx hb dX12_goes_26 (lv_at hl 0 rfl) ?_
  refine lv_iconst (v := 3) hx hb dX12_goes_28 (by decide) ?_
  refine lv_icmp_ge (tgt := 111) hx hb dX12_goes_29 (by decide) (fun c9 => absurd c9 (by decide)) (fun _ => ?_)
  refine lv_iload_n hx hb dX12_goes_32 rfl (lv_at hl 4 rfl) ?_
  refine lv_iload hx hb dX12_goes_33 (lv_at hl 0 rfl) ?_
  refine cl_i (wr := [(mc11 cy mh mq), (mh, .inr (12, [.int 0, .int 100, .int 200, .int 5, .int 100, .int 0, .int nw, .int 0, .int 0, .int 0, .int 0, .ref (mq 0), .int 0, .ref (mq 1), .ref (mq 2), .ref (mq 3), .ref (mq 4), .ref (mq 5), .ref (mq 6), .ref (mq 7), .ref (mq 8), .ref (mq 9), .ref (mq 10), .int 0, .ref (mq 11), .ref (mq 12), .ref (mq 13), .int 0, .ref (mq 14), .ref (mq 15), .ref (mq 16), .ref (mq 17), .ref (mq 18), .int 0, .int 0, .int 0, .int 0, .int 0, .int 0, .int 0, .int (-1), .ref (mq 19), .ref (mq 20), .ref (mq 21), .ref (mq 22), .ref (mq 23), .ref (mq 24), .int 0, .int 0, .int 0, .ref (mq 25), .ref (mq 26), .ref (mq 27), .ref (mq 28), .ref (mq 29)]))]) (va_runS (As := [.int 0, .int 2]) (rest := []) ⟨hx, hb, hml, hown, hts⟩ (c_M_yardRow l D cy 0 2 _) (va_cwS 2 hts gX12_goes_X12_yardRow rfl rfl rfl (by decide +kernel) ⟨(Nat.le_of_ble_eq_true rfl), (Nat.le_of_ble_eq_true rfl)⟩) (pre_S hKX hP hD [] rfl (by decide) rfl) rfl rfl hl.1 rfl (lv_room (Nat.le_of_ble_eq_true rfl)) dX12_goes_35 ⟨(Nat.le_of_ble_eq_true rfl), (Nat.le_of_ble_eq_true rfl)⟩) hP hD hS hA [] [0, 1] rfl rfl (by decide) (by decide) (fun u6 H locs _ hP hD hS => ?_)
  have hP : va_P D vwCl [(mc11 cy mh mq), (mh, .inr (12, [.int 0, .int 100, .int 200, .int 5, .int 100, .int 0, .int nw, .int 0, .int 0, .int 0, .int 0, .ref (mq 0), .int 0, .ref (mq 1), .ref (mq 2), .ref (mq 3), .ref (mq 4), .ref (mq 5), .ref (mq 6), .ref (mq 7), .ref (mq 8), .ref (mq 9), .ref (mq 10), .int 0, .ref (mq 11), .ref (mq 12), .ref (mq 13), .int 0, .ref (mq 14), .ref (mq 15), .ref (mq 16), .ref (mq 17), .ref (mq 18), .int 0, .int 0, .int 0, .int 0, .int 0, .int 0, .int 0, .int (-1), .ref (mq 19), .ref (mq 20), .ref (mq 21), .ref (mq 22), .ref (mq 23), .ref (mq 24), .int 0, .int 0, .int 0, .ref (mq 25), .ref (mq 26), .ref (mq 27), .ref (mq 28), .ref (mq 29)]))] H := hP
  have hD : va_D A [(mc11 cy mh mq), (mh, .inr (12, [.int 0, .int 100, .int 200, .int 5, .int 100, .int 0, .int nw, .int 0, .int 0, .int 0, .int 0, .ref (mq 0), .int 0, .ref (mq 1), .ref (mq 2), .ref (mq 3), .ref (mq 4), .ref (mq 5), .ref (mq 6), .ref (mq 7), .ref (mq 8), .ref (mq 9), .ref (mq 10), .int 0, .ref (mq 11), .ref (mq 12), .ref (mq 13), .int 0, .ref (mq 14), .ref (mq 15), .ref (mq 16), .ref (mq 17), .ref (mq 18), .int 0, .int 0, .int 0, .int 0, .int 0, .int 0, .int 0, .int (-1), .ref (mq 19), .ref (mq 20), .ref (mq 21), .ref (mq 22), .ref (mq 23), .ref (mq 24), .int 0, .int 0, .int 0, .ref (mq 25), .ref (mq 26), .ref (mq 27), .ref (mq 28), .ref (mq 29)]))] := hD
  refine lv_cst 6 (by decide) ?_
  refine lv_istore (lv' := [(5, .int 6), (4, .int 2), (6, .int 0), (3, .int 1), (2, .int 0), (1, .int (-1)), (0, .ref mh)]) hx hb dX12_goes_38 hl (by decide) rfl (fun ls hl => ?_)
  refine lv_iconst (v := 0) hx hb dX12_goes_40 (by decide) ?_
  refine lv_istore (lv' := [(6, .int 0), (5, .int 6), (4, .int 2), (3, .int 1), (2, .int 0), (1, .int (-1)), (0, .ref mh)]) hx hb dX12_goes_41 hl (by decide) rfl (fun ls hl => ?_)
  refine lv_iload hx hb dX12_goes_43 (lv_at hl 0 rfl) ?_
  refine lv_aload_n hx hb dX12_goes_45 rfl (lv_at hl 6 rfl) ?_
  refine va_get (D := D) (ci := 12) (v := .ref (mq 10)) (C := RX12) (T := TX12) (N := 55) hx hb hts iw_X12_goes_X12 hown hKX.1 hP 1 rfl rfl 22 (by decide) (hts (.fieldLink RX12 58 "TrainFerryModel" "many" "[I") (by decide +kernel)) (fun _ h9 => h9) rfl dX12_goes_46 ?_
  refine lv_iload hx hb dX12_goes_49 (lv_at hl 1 rfl) ?_
  refine va_iald hx hb hKX.1 hP 0 0 rfl rfl (vind (by decide)) dX12_goes_51 ?_
  refine lv_cst 0 rfl ?_
  refine lv_icmp_ge (tgt := 105) hx hb dX12_goes_52 (by decide) (fun _ => ?_) (fun c9 => absurd (by decide) c9)
  refine lv_iinc (v := 3) (lv' := [(4, .int 3), (6, .int 0), (5, .int 6), (3, .int 1), (2, .int 0), (1, .int (-1)), (0, .ref mh)]) hx hb dX12_goes_105 hl (k := 2) rfl (by decide) (by decide) rfl (fun ls hl => ?_)
  refine lv_goto (tgt := 26) hx hb dX12_goes_108 (by decide) ?_
  refine lv_iload hx hb dX12_goes_26 (lv_at hl 0 rfl) ?_
  refine lv_iconst (v := 3) hx hb dX12_goes_28 (by decide) ?_
  refine lv_icmp_ge (tgt := 111) hx hb dX12_goes_29 (by decide) (fun _ => ?_) (fun c9 => absurd (by decide) c9)
  refine lv_iinc (v := 1) (lv' := [(2, .int 1), (4, .int 3), (6, .int 0), (5, .int 6), (3, .int 1), (1, .int (-1)), (0, .ref mh)]) hx hb dX12_goes_111 hl (k := 4) rfl (by decide) (by decide) rfl (fun ls hl => ?_)
  refine lv_goto (tgt := 7) hx hb dX12_goes_114 (by decide) ?_
  refine lv_iload_n hx hb dX12_goes_7 rfl (lv_at hl 0 rfl) ?_
  refine lv_iconst (v := 2) hx hb dX12_goes_8 (by decide) ?_
  refine lv_icmp_ge (tgt := 117) hx hb dX12_goes_9 (by decide) (fun c9 => absurd c9 (by decide)) (fun _ => ?_)
  refine lv_aload_n hx hb dX12_goes_12 rfl (lv_at hl 6 rfl) ?_
  refine lv_iload_n hx hb dX12_goes_13 rfl (lv_at hl 0 rfl) ?_
  refine lv_aload_n hx hb dX12_goes_14 rfl (lv_at hl 6 rfl) ?_
  refine lv_iload_n hx hb dX12_goes_15 rfl (lv_at hl 0 rfl) ?_
  refine cl_i (wr := [(mc11 cy mh mq)]) (va_runV (As := [.int 1]) (rest := [.int 1, .ref mh]) ⟨hx, hb, hml, hown, hts⟩ (c_isRampOpen l D cy mh mq nw 0 1 _) (cwV 1 hts gX12_goes_X12_isRampOpen rfl rfl rfl (by decide +kernel) ⟨(Nat.le_of_ble_eq_true rfl), (Nat.le_of_ble_eq_true rfl)⟩) (pre_V hKX hP hD (ci := 12) (q0 := 1) rfl rfl [1] rfl (by decide) rfl) rfl rfl hl.1 rfl (lv_room (Nat.le_of_ble_eq_true rfl)) dX12_goes_16 ⟨(Nat.le_of_ble_eq_true rfl), (Nat.le_of_ble_eq_true rfl)⟩) hP hD hS hA [1] [0] rfl rfl (by decide) (by decide) (fun u7 H locs _ hP hD hS => ?_)
  have hP : va_P D vwCl [(mc11 cy mh mq), (mh, .inr (12, [.int 0, .int 100, .int 200, .int 5, .int 100, .int 0, .int nw, .int 0, .int 0, .int 0, .int 0, .ref (mq 0), .int 0, .ref (mq 1), .ref (mq 2), .ref (mq 3), .ref (mq 4), .ref (mq 5), .ref (mq 6), .ref (mq 7), .ref (mq 8), .ref (mq 9), .ref (mq 10), .int 0, .ref (mq 11), .ref (mq 12), .ref (mq 13), .int 0, .ref (mq 14), .ref (mq 15), .ref (mq 16), .ref (mq 17), .ref (mq 18), .int 0, .int 0, .int 0, .int 0, .int 0, .int 0, .int 0, .int (-1), .ref (mq 19), .ref (mq 20), .ref (mq 21), .ref (mq 22), .ref (mq 23), .ref (mq 24), .int 0, .int 0, .int 0, .ref (mq 25), .ref (mq 26), .ref (mq 27), .ref (mq 28), .ref (mq 29)]))] H := hP
  have hD : va_D A [(mc11 cy mh mq), (mh, .inr (12, [.int 0, .int 100, .int 200, .int 5, .int 100, .int 0, .int nw, .int 0, .int 0, .int 0, .int 0, .ref (mq 0), .int 0, .ref (mq 1), .ref (mq 2), .ref (mq 3), .ref (mq 4), .ref (mq 5), .ref (mq 6), .ref (mq 7), .ref (mq 8), .ref (mq 9), .ref (mq 10), .int 0, .ref (mq 11), .ref (mq 12), .ref (mq 13), .int 0, .ref (mq 14), .ref (mq 15), .ref (mq 16), .ref (mq 17), .ref (mq 18), .int 0, .int 0, .int 0, .int 0, .int 0, .int 0, .int 0, .int (-1), .ref (mq 19), .ref (mq 20), .ref (mq 21), .ref (mq 22), .ref (mq 23), .ref (mq 24), .int 0, .int 0, .int 0, .ref (mq 25), .ref (mq 26), .ref (mq 27), .ref (mq 28), .ref (mq 29)]))] := hD
  refine cl_i (wr := [(mc11 cy mh mq)]) (va_runV (As := [.int 1, .int 0]) (rest := []) ⟨hx, hb, hml, hown, hts⟩ (c_cause_1 l D cy mh mq nw _) (cwV 2 hts gX12_goes_X12_cause rfl rfl rfl (by decide +kernel) ⟨(Nat.le_of_ble_eq_true rfl), (Nat.le_of_ble_eq_true rfl)⟩) (pre_V hKX hP hD (ci := 12) (q0 := 1) rfl rfl [1] rfl (by decide) rfl) rfl rfl hl.1 rfl (lv_room (Nat.le_of_ble_eq_true rfl)) dX12_goes_19 ⟨(Nat.le_of_ble_eq_true rfl), (Nat.le_of_ble_eq_true rfl)⟩) hP hD hS hA [1] [0] rfl rfl (by decide) (by decide) (fun u8 H locs _ hP hD hS => ?_)
  have hP : va_P D vwCl [(mc11 cy mh mq), (mh, .inr (12, [.int 0, .int 100, .int 200, .int 5, .int 100, .int 0, .int nw, .int 0, .int 0, .int 0, .int 0, .ref (mq 0), .int 0, .ref (mq 1), .ref (mq 2), .ref (mq 3), .ref (mq 4), .ref (mq 5), .ref (mq 6), .ref (mq 7), .ref (mq 8), .ref (mq 9), .ref (mq 10), .int 0, .ref (mq 11), .ref (mq 12), .ref (mq 13), .int 0, .ref (mq 14), .ref (mq 15), .ref (mq 16), .ref (mq 17), .ref (mq 18), .int 0, .int 0, .int 0, .int 0, .int 0, .int 0, .int 0, .int (-1), .ref (mq 19), .ref (mq 20), .ref (mq 21), .ref (mq 22), .ref (mq 23), .ref (mq 24), .int 0, .int 0, .int 0, .ref (mq 25), .ref (mq 26), .ref (mq 27), .ref (mq 28), .ref (mq 29)]))] H := hP
  have hD : va_D A [(mc11 cy mh mq), (mh, .inr (12, [.int 0, .int 100, .int 200, .int 5, .int 100, .int 0, .int nw, .int 0, .int 0, .int 0, .int 0, .ref (mq 0), .int 0, .ref (mq 1), .ref (mq 2), .ref (mq 3), .ref (mq 4), .ref (mq 5), .ref (mq 6), .ref (mq 7), .ref (mq 8), .ref (mq 9), .ref (mq 10), .int 0, .ref (mq 11), .ref (mq 12), .ref (mq 13), .int 0, .ref (mq 14), .ref (mq 15), .ref (mq 16), .ref (mq 17), .ref (mq 18), .int 0, .int 0, .int 0, .int 0, .int 0, .int 0, .int 0, .int (-1), .ref (mq 19), .ref (mq 20), .ref (mq 21), .ref (mq 22), .ref (mq 23), .ref (mq 24), .int 0, .int 0, .int 0, .ref (mq 25), .ref (mq 26), .ref (mq 27), .ref (mq 28), .ref (mq 29)]))] := hD
  refine lv_istore_n (lv' := [(3, .int 1), (2, .int 1), (4, .int 3), (6, .int 0), (5, .int 6), (1, .int (-1)), (0, .ref mh)]) hx hb dX12_goes_22 rfl hl (by decide) rfl (fun ls hl => ?_)
  refine lv_iconst (v := 0) hx hb dX12_goes_23 (by decide) ?_
  refine lv_istore (lv' := [(4, .int 0), (3, .int 1), (2, .int 1), (6, .int 0), (5, .int 6), (1, .int (-1)), (0, .ref mh)]) hx hb dX12_goes_24 hl (by decide) rfl (fun ls hl => ?_)
  refine lv_iload hx hb dX12_goes_26 (lv_at hl 0 rfl) ?_
  refine lv_iconst (v := 3) hx hb dX12_goes_28 (by decide) ?_
  refine lv_icmp_ge (tgt := 111) hx hb dX12_goes_29 (by decide) (fun c9 => absurd c9 (by decide)) (fun _ => ?_)
  refine lv_iload_n hx hb dX12_goes_32 rfl (lv_at hl 2 rfl) ?_
  refine lv_iload hx hb dX12_goes_33 (lv_at hl 0 rfl) ?_
  refine cl_i (wr := [(mc11 cy mh mq), (mh, .inr (12, [.int 0, .int 100, .int 200, .int 5, .int 100, .int 0, .int nw, .int 0, .int 0, .int 0, .int 0, .ref (mq 0), .int 0, .ref (mq 1), .ref (mq 2), .ref (mq 3), .ref (mq 4), .ref (mq 5), .ref (mq 6), .ref (mq 7), .ref (mq 8), .ref (mq 9), .ref (mq 10), .int 0, .ref (mq 11), .ref (mq 12), .ref (mq 13), .int 0, .ref (mq 14), .ref (mq 15), .ref (mq 16), .ref (mq 17), .ref (mq 18), .int 0, .int 0, .int 0, .int 0, .int 0, .int 0, .int 0, .int (-1), .ref (mq 19), .ref (mq 20), .ref (mq 21), .ref (mq 22), .ref (mq 23), .ref (mq 24), .int 0, .int 0, .int 0, .ref (mq 25), .ref (mq 26), .ref (mq 27), .ref (mq 28), .ref (mq 29)]))]) (va_runS (As := [.int 1, .int 0]) (rest := []) ⟨hx, hb, hml, hown, hts⟩ (c_M_yardRow l D cy 1 0 _) (va_cwS 2 hts gX12_goes_X12_yardRow rfl rfl rfl (by decide +kernel) ⟨(Nat.le_of_ble_eq_true rfl), (Nat.le_of_ble_eq_true rfl)⟩) (pre_S hKX hP hD [] rfl (by decide) rfl) rfl rfl hl.1 rfl (lv_room (Nat.le_of_ble_eq_true rfl)) dX12_goes_35 ⟨(Nat.le_of_ble_eq_true rfl), (Nat.le_of_ble_eq_true rfl)⟩) hP hD hS hA [] [0, 1] rfl rfl (by decide) (by decide) (fun u9 H locs _ hP hD hS => ?_)
  have hP : va_P D vwCl [(mc11 cy mh mq), (mh, .inr (12, [.int 0, .int 100, .int 200, .int 5, .int 100, .int 0, .int nw, .int 0, .int 0, .int 0, .int 0, .ref (mq 0), .int 0, .ref (mq 1), .ref (mq 2), .ref (mq 3), .ref (mq 4), .ref (mq 5), .ref (mq 6), .ref (mq 7), .ref (mq 8), .ref (mq 9), .ref (mq 10), .int 0, .ref (mq 11), .ref (mq 12), .ref (mq 13), .int 0, .ref (mq 14), .ref (mq 15), .ref (mq 16), .ref (mq 17), .ref (mq 18), .int 0, .int 0, .int 0, .int 0, .int 0, .int 0, .int 0, .int (-1), .ref (mq 19), .ref (mq 20), .ref (mq 21), .ref (mq 22), .ref (mq 23), .ref (mq 24), .int 0, .int 0, .int 0, .ref (mq 25), .ref (mq 26), .ref (mq 27), .ref (mq 28), .ref (mq 29)]))] H := hP
  have hD : va_D A [(mc11 cy mh mq), (mh, .inr (12, [.int 0, .int 100, .int 200, .int 5, .int 100, .int 0, .int nw, .int 0, .int 0, .int 0, .int 0, .ref (mq 0), .int 0, .ref (mq 1), .ref (mq 2), .ref (mq 3), .ref (mq 4), .ref (mq 5), .ref (mq 6), .ref (mq 7), .ref (mq 8), .ref (mq 9), .ref (mq 10), .int 0, .ref (mq 11), .ref (mq 12), .ref (mq 13), .int 0, .ref (mq 14), .ref (mq 15), .ref (mq 16), .ref (mq 17), .ref (mq 18), .int 0, .int 0, .int 0, .int 0, .int 0, .int 0, .int 0, .int (-1), .ref (mq 19), .ref (mq 20), .ref (mq 21), .ref (mq 22), .ref (mq 23), .ref (mq 24), .int 0, .int 0, .int 0, .ref (mq 25), .ref (mq 26), .ref (mq 27), .ref (mq 28), .ref (mq 29)]))] := hD
  refine lv_cst 7 (by decide) ?_
  refine lv_istore (lv' := [(5, .int 7), (4, .int 0), (3, .int 1), (2, .int 1), (6, .int 0), (1, .int (-1)), (0, .ref mh)]) hx hb dX12_goes_38 hl (by decide) rfl (fun ls hl => ?_)
  refine lv_iconst (v := 0) hx hb dX12_goes_40 (by decide) ?_
  refine lv_istore (lv' := [(6, .int 0), (5, .int 7), (4, .int 0), (3, .int 1), (2, .int 1), (1, .int (-1)), (0, .ref mh)]) hx hb dX12_goes_41 hl (by decide) rfl (fun ls hl => ?_)
  refine lv_iload hx hb dX12_goes_43 (lv_at hl 0 rfl) ?_
  refine lv_aload_n hx hb dX12_goes_45 rfl (lv_at hl 6 rfl) ?_
  refine va_get (D := D) (ci := 12) (v := .ref (mq 10)) (C := RX12) (T := TX12) (N := 55) hx hb hts iw_X12_goes_X12 hown hKX.1 hP 1 rfl rfl 22 (by decide) (hts (.fieldLink RX12 58 "TrainFerryModel" "many" "[I") (by decide +kernel)) (fun _ h9 => h9) rfl dX12_goes_46 ?_
  refine lv_iload hx hb dX12_goes_49 (lv_at hl 1 rfl) ?_
  refine va_iald hx hb hKX.1 hP 0 0 rfl rfl (vind (by decide)) dX12_goes_51 ?_
  refine lv_cst 0 rfl ?_
  refine lv_icmp_ge (tgt := 105) hx hb dX12_goes_52 (by decide) (fun _ => ?_) (fun c9 => absurd (by decide) c9)
  refine lv_iinc (v := 1) (lv' := [(4, .int 1), (6, .int 0), (5, .int 7), (3, .int 1), (2, .int 1), (1, .int (-1)), (0, .ref mh)]) hx hb dX12_goes_105 hl (k := 2) rfl (by decide) (by decide) rfl (fun ls hl => ?_)
  refine lv_goto (tgt := 26) hx hb dX12_goes_108 (by decide) ?_
  refine lv_iload hx hb dX12_goes_26 (lv_at hl 0 rfl) ?_
  refine lv_iconst (v := 3) hx hb dX12_goes_28 (by decide) ?_
  refine lv_icmp_ge (tgt := 111) hx hb dX12_goes_29 (by decide) (fun c9 => absurd c9 (by decide)) (fun _ => ?_)
  refine lv_iload_n hx hb dX12_goes_32 rfl (lv_at hl 4 rfl) ?_
  refine lv_iload hx hb dX12_goes_33 (lv_at hl 0 rfl) ?_
  refine cl_i (wr := [(mc11 cy mh mq), (mh, .inr (12, [.int 0, .int 100, .int 200, .int 5, .int 100, .int 0, .int nw, .int 0, .int 0, .int 0, .int 0, .ref (mq 0), .int 0, .ref (mq 1), .ref (mq 2), .ref (mq 3), .ref (mq 4), .ref (mq 5), .ref (mq 6), .ref (mq 7), .ref (mq 8), .ref (mq 9), .ref (mq 10), .int 0, .ref (mq 11), .ref (mq 12), .ref (mq 13), .int 0, .ref (mq 14), .ref (mq 15), .ref (mq 16), .ref (mq 17), .ref (mq 18), .int 0, .int 0, .int 0, .int 0, .int 0, .int 0, .int 0, .int (-1), .ref (mq 19), .ref (mq 20), .ref (mq 21), .ref (mq 22), .ref (mq 23), .ref (mq 24), .int 0, .int 0, .int 0, .ref (mq 25), .ref (mq 26), .ref (mq 27), .ref (mq 28), .ref (mq 29)]))]) (va_runS (As := [.int 1, .int 1]) (rest := []) ⟨hx, hb, hml, hown, hts⟩ (c_M_yardRow l D cy 1 1 _) (va_cwS 2 hts gX12_goes_X12_yardRow rfl rfl rfl (by decide +kernel) ⟨(Nat.le_of_ble_eq_true rfl), (Nat.le_of_ble_eq_true rfl)⟩) (pre_S hKX hP hD [] rfl (by decide) rfl) rfl rfl hl.1 rfl (lv_room (Nat.le_of_ble_eq_true rfl)) dX12_goes_35 ⟨(Nat.le_of_ble_eq_true rfl), (Nat.le_of_ble_eq_true rfl)⟩) hP hD hS hA [] [0, 1] rfl rfl (by decide) (by decide) (fun u10 H locs _ hP hD hS => ?_)
  have hP : va_P D vwCl [(mc11 cy mh mq), (mh, .inr (12, [.int 0, .int 100, .int 200, .int 5, .int 100, .int 0, .int nw, .int 0, .int 0, .int 0, .int 0, .ref (mq 0), .int 0, .ref (mq 1), .ref (mq 2), .ref (mq 3), .ref (mq 4), .ref (mq 5), .ref (mq 6), .ref (mq 7), .ref (mq 8), .ref (mq 9), .ref (mq 10), .int 0, .ref (mq 11), .ref (mq 12), .ref (mq 13), .int 0, .ref (mq 14), .ref (mq 15), .ref (mq 16), .ref (mq 17), .ref (mq 18), .int 0, .int 0, .int 0, .int 0, .int 0, .int 0, .int 0, .int (-1), .ref (mq 19), .ref (mq 20), .ref (mq 21), .ref (mq 22), .ref (mq 23), .ref (mq 24), .int 0, .int 0, .int 0, .ref (mq 25), .ref (mq 26), .ref (mq 27), .ref (mq 28), .ref (mq 29)]))] H := hP
  have hD : va_D A [(mc11 cy mh mq), (mh, .inr (12, [.int 0, .int 100, .int 200, .int 5, .int 100, .int 0, .int nw, .int 0, .int 0, .int 0, .int 0, .ref (mq 0), .int 0, .ref (mq 1), .ref (mq 2), .ref (mq 3), .ref (mq 4), .ref (mq 5), .ref (mq 6), .ref (mq 7), .ref (mq 8), .ref (mq 9), .ref (mq 10), .int 0, .ref (mq 11), .ref (mq 12), .ref (mq 13), .int 0, .ref (mq 14), .ref (mq 15), .ref (mq 16), .ref (mq 17), .ref (mq 18), .int 0, .int 0, .int 0, .int 0, .int 0, .int 0, .int 0, .int (-1), .ref (mq 19), .ref (mq 20), .ref (mq 21), .ref (mq 22), .ref (mq 23), .ref (mq 24), .int 0, .int 0, .int 0, .ref (mq 25), .ref (mq 26), .ref (mq 27), .ref (mq 28), .ref (mq 29)]))] := hD
  refine lv_cst 8 (by decide) ?_
  refine lv_istore (lv' := [(5, .int 8), (4, .int 1), (6, .int 0), (3, .int 1), (2, .int 1), (1, .int (-1)), (0, .ref mh)]) hx hb dX12_goes_38 hl (by decide) rfl (fun ls hl => ?_)
  refine lv_iconst (v := 0) hx hb dX12_goes_40 (by decide) ?_
  refine lv_istore (lv' := [(6, .int 0), (5, .int 8), (4, .int 1), (3, .int 1), (2, .int 1), (1, .int (-1)), (0, .ref mh)]) hx hb dX12_goes_41 hl (by decide) rfl (fun ls hl => ?_)
  refine lv_iload hx hb dX12_goes_43 (lv_at hl 0 rfl) ?_
  refine lv_aload_n hx hb dX12_goes_45 rfl (lv_at hl 6 rfl) ?_
  refine va_get (D := D) (ci := 12) (v := .ref (mq 10)) (C := RX12) (T := TX12) (N := 55) hx hb hts iw_X12_goes_X12 hown hKX.1 hP 1 rfl rfl 22 (by decide) (hts (.fieldLink RX12 58 "TrainFerryModel" "many" "[I") (by decide +kernel)) (fun _ h9 => h9) rfl dX12_goes_46 ?_
  refine lv_iload hx hb dX12_goes_49 (lv_at hl 1 rfl) ?_
  refine va_iald hx hb hKX.1 hP 0 0 rfl rfl (vind (by decide)) dX12_goes_51 ?_
  refine lv_cst 0 rfl ?_
  refine lv_icmp_ge (tgt := 105) hx hb dX12_goes_52 (by decide) (fun _ => ?_) (fun c9 => absurd (by decide) c9)
  refine lv_iinc (v := 2) (lv' := [(4, .int 2), (6, .int 0), (5, .int 8), (3, .int 1), (2, .int 1), (1, .int (-1)), (0, .ref mh)]) hx hb dX12_goes_105 hl (k := 2) rfl (by decide) (by decide) rfl (fun ls hl => ?_)
  refine lv_goto (tgt := 26) hx hb dX12_goes_108 (by decide) ?_
  refine lv_iload hx hb dX12_goes_26 (lv_at hl 0 rfl) ?_
  refine lv_iconst (v := 3) hx hb dX12_goes_28 (by decide) ?_
  refine lv_icmp_ge (tgt := 111) hx hb dX12_goes_29 (by decide) (fun c9 => absurd c9 (by decide)) (fun _ => ?_)
  refine lv_iload_n hx hb dX12_goes_32 rfl (lv_at hl 4 rfl) ?_
  refine lv_iload hx hb dX12_goes_33 (lv_at hl 0 rfl) ?_
  refine cl_i (wr := [(mc11 cy mh mq), (mh, .inr (12, [.int 0, .int 100, .int 200, .int 5, .int 100, .int 0, .int nw, .int 0, .int 0, .int 0, .int 0, .ref (mq 0), .int 0, .ref (mq 1), .ref (mq 2), .ref (mq 3), .ref (mq 4), .ref (mq 5), .ref (mq 6), .ref (mq 7), .ref (mq 8), .ref (mq 9), .ref (mq 10), .int 0, .ref (mq 11), .ref (mq 12), .ref (mq 13), .int 0, .ref (mq 14), .ref (mq 15), .ref (mq 16), .ref (mq 17), .ref (mq 18), .int 0, .int 0, .int 0, .int 0, .int 0, .int 0, .int 0, .int (-1), .ref (mq 19), .ref (mq 20), .ref (mq 21), .ref (mq 22), .ref (mq 23), .ref (mq 24), .int 0, .int 0, .int 0, .ref (mq 25), .ref (mq 26), .ref (mq 27), .ref (mq 28), .ref (mq 29)]))]) (va_runS (As := [.int 1, .int 2]) (rest := []) ⟨hx, hb, hml, hown, hts⟩ (c_M_yardRow l D cy 1 2 _) (va_cwS 2 hts gX12_goes_X12_yardRow rfl rfl rfl (by decide +kernel) ⟨(Nat.le_of_ble_eq_true rfl), (Nat.le_of_ble_eq_true rfl)⟩) (pre_S hKX hP hD [] rfl (by decide) rfl) rfl rfl hl.1 rfl (lv_room (Nat.le_of_ble_eq_true rfl)) dX12_goes_35 ⟨(Nat.le_of_ble_eq_true rfl), (Nat.le_of_ble_eq_true rfl)⟩) hP hD hS hA [] [0, 1] rfl rfl (by decide) (by decide) (fun u11 H locs _ hP hD hS => ?_)
  have hP : va_P D vwCl [(mc11 cy mh mq), (mh, .inr (12, [.int 0, .int 100, .int 200, .int 5, .int 100, .int 0, .int nw, .int 0, .int 0, .int 0, .int 0, .ref (mq 0), .int 0, .ref (mq 1), .ref (mq 2), .ref (mq 3), .ref (mq 4), .ref (mq 5), .ref (mq 6), .ref (mq 7), .ref (mq 8), .ref (mq 9), .ref (mq 10), .int 0, .ref (mq 11), .ref (mq 12), .ref (mq 13), .int 0, .ref (mq 14), .ref (mq 15), .ref (mq 16), .ref (mq 17), .ref (mq 18), .int 0, .int 0, .int 0, .int 0, .int 0, .int 0, .int 0, .int (-1), .ref (mq 19), .ref (mq 20), .ref (mq 21), .ref (mq 22), .ref (mq 23), .ref (mq 24), .int 0, .int 0, .int 0, .ref (mq 25), .ref (mq 26), .ref (mq 27), .ref (mq 28), .ref (mq 29)]))] H := hP
  have hD : va_D A [(mc11 cy mh mq), (mh, .inr (12, [.int 0, .int 100, .int 200, .int 5, .int 100, .int 0, .int nw, .int 0, .int 0, .int 0, .int 0, .ref (mq 0), .int 0, .ref (mq 1), .ref (mq 2), .ref (mq 3), .ref (mq 4), .ref (mq 5), .ref (mq 6), .ref (mq 7), .ref (mq 8), .ref (mq 9), .ref (mq 10), .int 0, .ref (mq 11), .ref (mq 12), .ref (mq 13), .int 0, .ref (mq 14), .ref (mq 15), .ref (mq 16), .ref (mq 17), .ref (mq 18), .int 0, .int 0, .int 0, .int 0, .int 0, .int 0, .int 0, .int (-1), .ref (mq 19), .ref (mq 20), .ref (mq 21), .ref (mq 22), .ref (mq 23), .ref (mq 24), .int 0, .int 0, .int 0, .ref (mq 25), .ref (mq 26), .ref (mq 27), .ref (mq 28), .ref (mq 29)]))] := hD
  refine lv_cst 9 (by decide) ?_
  refine lv_istore (lv' := [(5, .int 9), (4, .int 2), (6, .int 0), (3, .int 1), (2, .int 1), (1, .int (-1)), (0, .ref mh)]) hx hb dX12_goes_38 hl (by decide) rfl (fun ls hl => ?_)
  refine lv_iconst (v := 0) hx hb dX12_goes_40 (by decide) ?_
  refine lv_istore (lv' := [(6, .int 0), (5, .int 9), (4, .int 2), (3, .int 1), (2, .int 1), (1, .int (-1)), (0, .ref mh)]) hx hb dX12_goes_41 hl (by decide) rfl (fun ls hl => ?_)
  refine lv_iload hx hb dX12_goes_43 (lv_at hl 0 rfl) ?_
  refine lv_aload_n hx hb dX12_goes_45 rfl (lv_at hl 6 rfl) ?_
  refine va_get (D := D) (ci := 12) (v := .ref (mq 10)) (C := RX12) (T := TX12) (N := 55) hx hb hts iw_X12_goes_X12 hown hKX.1 hP 1 rfl rfl 22 (by decide) (hts (.fieldLink RX12 58 "TrainFerryModel" "many" "[I") (by decide +kernel)) (fun _ h9 => h9) rfl dX12_goes_46 ?_
  refine lv_iload hx hb dX12_goes_49 (lv_at hl 1 rfl) ?_
  refine va_iald hx hb hKX.1 hP 0 0 rfl rfl (vind (by decide)) dX12_goes_51 ?_
  refine lv_cst 0 rfl ?_
  refine lv_icmp_ge (tgt := 105) hx hb dX12_goes_52 (by decide) (fun _ => ?_) (fun c9 => absurd (by decide) c9)
  refine lv_iinc (v := 3) (lv' := [(4, .int 3), (6, .int 0), (5, .int 9), (3, .int 1), (2, .int 1), (1, .int (-1)), (0, .ref mh)]) hx hb dX12_goes_105 hl (k := 2) rfl (by decide) (by decide) rfl (fun ls hl => ?_)
  refine lv_goto (tgt := 26) hx hb dX12_goes_108 (by decide) ?_
  refine lv_iload hx hb dX12_goes_26 (lv_at hl 0 rfl) ?_
  refine lv_iconst (v := 3) hx hb dX12_goes_28 (by decide) ?_
  refine lv_icmp_ge (tgt := 111) hx hb dX12_goes_29 (by decide) (fun _ => ?_) (fun c9 => absurd (by decide) c9)
  refine lv_iinc (v := 2) (lv' := [(2, .int 2), (4, .int 3), (6, .int 0), (5, .int 9), (3, .int 1), (1, .int (-1)), (0, .ref mh)]) hx hb dX12_goes_111 hl (k := 4) rfl (by decide) (by decide) rfl (fun ls hl => ?_)
  refine lv_goto (tgt := 7) hx hb dX12_goes_114 (by decide) ?_
  refine lv_iload_n hx hb dX12_goes_7 rfl (lv_at hl 0 rfl) ?_
  refine lv_iconst (v := 2) hx hb dX12_goes_8 (by decide) ?_
  refine lv_icmp_ge (tgt := 117) hx hb dX12_goes_9 (by decide) (fun _ => ?_) (fun c9 => absurd (by decide) c9)
  refine lv_aload_n hx hb dX12_goes_117 rfl (lv_at hl 6 rfl) ?_
  refine lv_dup hx hb dX12_goes_118 rfl ?_
  refine va_get (D := D) (ci := 12) (v := .int nw) (C := RX12) (T := TX12) (N := 55) hx hb hts iw_X12_goes_X12 hown hKX.1 hP 1 rfl rfl 6 (by decide) (hts (.fieldLink RX12 152 "TrainFerryModel" "tick" "I") (by decide +kernel)) (fun _ h9 => h9) rfl dX12_goes_119 ?_
  refine lv_iconst (v := 1) hx hb dX12_goes_122 (by decide) ?_
  refine lv_iadd hx hb dX12_goes_123 ?_
  refine va_put (D := D) (ci := 12) (v := .int (nw + 1)) (ty := .int) (C := RX12) (T := TX12) (N := 55) hx hb hts iw_X12_goes_X12 tyX12 tyX12_ok nmX12 hown hKX.1 hP hD hS 1 rfl rfl 6 (by decide) (hts (.fieldLink RX12 152 "TrainFerryModel" "tick" "I") (by decide +kernel)) (fun _ h9 => h9) rfl (by decide +kernel) rfl rfl (Nat.le_of_ble_eq_true rfl) dX12_goes_124 (fun H locs hP hD hS => ?_)
  have hP : va_P D vwCl [(mc11 cy mh mq), (mh, .inr (12, [.int 0, .int 100, .int 200, .int 5, .int 100, .int 0, .int (nw + 1), .int 0, .int 0, .int 0, .int 0, .ref (mq 0), .int 0, .ref (mq 1), .ref (mq 2), .ref (mq 3), .ref (mq 4), .ref (mq 5), .ref (mq 6), .ref (mq 7), .ref (mq 8), .ref (mq 9), .ref (mq 10), .int 0, .ref (mq 11), .ref (mq 12), .ref (mq 13), .int 0, .ref (mq 14), .ref (mq 15), .ref (mq 16), .ref (mq 17), .ref (mq 18), .int 0, .int 0, .int 0, .int 0, .int 0, .int 0, .int 0, .int (-1), .ref (mq 19), .ref (mq 20), .ref (mq 21), .ref (mq 22), .ref (mq 23), .ref (mq 24), .int 0, .int 0, .int 0, .ref (mq 25), .ref (mq 26), .ref (mq 27), .ref (mq 28), .ref (mq 29)]))] H := hP
  have hD : va_D A [(mc11 cy mh mq), (mh, .inr (12, [.int 0, .int 100, .int 200, .int 5, .int 100, .int 0, .int (nw + 1), .int 0, .int 0, .int 0, .int 0, .ref (mq 0), .int 0, .ref (mq 1), .ref (mq 2), .ref (mq 3), .ref (mq 4), .ref (mq 5), .ref (mq 6), .ref (mq 7), .ref (mq 8), .ref (mq 9), .ref (mq 10), .int 0, .ref (mq 11), .ref (mq 12), .ref (mq 13), .int 0, .ref (mq 14), .ref (mq 15), .ref (mq 16), .ref (mq 17), .ref (mq 18), .int 0, .int 0, .int 0, .int 0, .int 0, .int 0, .int 0, .int (-1), .ref (mq 19), .ref (mq 20), .ref (mq 21), .ref (mq 22), .ref (mq 23), .ref (mq 24), .int 0, .int 0, .int 0, .ref (mq 25), .ref (mq 26), .ref (mq 27), .ref (mq 28), .ref (mq 29)]))] := hD
  refine lv_aload_n hx hb dX12_goes_127 rfl (lv_at hl 6 rfl) ?_
  refine va_get (D := D) (ci := 12) (v := .int 0) (C := RX12) (T := TX12) (N := 55) hx hb hts iw_X12_goes_X12 hown hKX.1 hP 1 rfl rfl 7 (by decide) (hts (.fieldLink RX12 161 "TrainFerryModel" "shore" "I") (by decide +kernel)) (fun _ h9 => h9) rfl dX12_goes_128 ?_
  refine lv_iconst (v := 2) hx hb dX12_goes_131 (by decide) ?_
  refine lv_icmp_ne (tgt := 154) hx hb dX12_goes_132 (by decide) (fun _ => ?_) (fun c9 => absurd c9 (by decide))
  exact en_v hx hb hr hlocks () trivial (hP.sub [0, 1] rfl) (hD.sub [0, 1] (by decide) rfl) hS (Nat.le_of_ble_eq_true rfl) (Nat.le_of_ble_eq_true rfl) dX12_goes_154
theorem iw_X12_ticks_X12 : ∀ w ∈ wsX120, w ∈ wsX12_ticks := by decide +kernel
set_option maxHeartbeats 4000000 in
set_option maxRecDepth 100000 in
theorem m_ticks (l : Launch) (D : va_G) (cy : Nat → ClassId) (mh : Nat) (mq : Nat → Nat) (xn : Int32) (sz : Nat) : Met l yX12_ticks wsX12_ticks ({ frames := 2, cells := 0, slots := 0, locals := 50 }) (wPre D cy [.ref mh, .int xn] sz [(mc0 cy mh mq), (mc11 cy mh mq)]) (wQi D (fTicks xn) (fun _ : Unit => True) (fun _u : Unit => []) (va_A [(mc0 cy mh mq), (mc11 cy mh mq)] sz)) 0 0 (va_A [(mc0 cy mh mq), (mc11 cy mh mq)] sz) := by
  refine met_go (y := yX12_ticks) (ws := wsX12_ticks) (av := [.ref mh, .int xn]) (cc := cX12_ticks) (maxL := 3) (ret := (some .int)) (Qc := fun A => wQi D (fTicks xn) (fun _ : Unit => True) (fun _u : Unit => []) A) (by decide) rfl (Nat.le_of_ble_eq_true rfl) ?_
  intro p e s m below meth c ls A hx hb hr hml hown hts hlocks hname hKX hP hD hA hS hl
  have hown : s.vm.findClass RX12 = some m.cls := hown
  have hl : lv_has ls 3 [(0, .ref mh), (1, .int xn)] := hl
  refine lv_aload_n hx hb dX12_ticks_0 rfl (lv_at hl 0 rfl) ?_
  refine lv_iconst (v := 0) hx hb dX12_ticks_1 (by decide) ?_
  refine va_put (D := D) (ci := 12) (v := .int 0) (ty := .int) (C := RX12) (T := TX12) (N := 55) hx hb hts iw_X12_ticks_X12 tyX12 tyX12_ok nmX12 hown hKX.1 hP hD hS 0 rfl rfl 0 (by decide) (hts (.fieldLink RX12 1 "TrainFerryModel" "thrown" "I") (by decide +kernel)) (fun _ h9 => h9) rfl (by decide +kernel) rfl rfl (Nat.le_of_ble_eq_true rfl) dX12_ticks_2 (fun H locs hP hD hS => ?_)
  have hP : va_P D vwCl [(mh, .inr (12, [.int 0, .int 100, .int 200, .int 5, .int 100, .int 0, .int 0, .int 0, .int 0, .int 0, .int 0, .ref (mq 0), .int 0, .ref (mq 1), .ref (mq 2), .ref (mq 3), .ref (mq 4), .ref (mq 5), .ref (mq 6), .ref (mq 7), .ref (mq 8), .ref (mq 9), .ref (mq 10), .int 0, .ref (mq 11), .ref (mq 12), .ref (mq 13), .int 0, .ref (mq 14), .ref (mq 15), .ref (mq 16), .ref (mq 17), .ref (mq 18), .int 0, .int 0, .int 0, .int 0, .int 0, .int 0, .int 0, .int (-1), .ref (mq 19), .ref (mq 20), .ref (mq 21), .ref (mq 22), .ref (mq 23), .ref (mq 24), .int 0, .int 0, .int 0, .ref (mq 25), .ref (mq 26), .ref (mq 27), .ref (mq 28), .ref (mq 29)])), (mc11 cy mh mq)] H := hP
  have hD : va_D A [(mh, .inr (12, [.int 0, .int 100, .int 200, .int 5, .int 100, .int 0, .int 0, .int 0, .int 0, .int 0, .int 0, .ref (mq 0), .int 0, .ref (mq 1), .ref (mq 2), .ref (mq 3), .ref (mq 4), .ref (mq 5), .ref (mq 6), .ref (mq 7), .ref (mq 8), .ref (mq 9), .ref (mq 10), .int 0, .ref (mq 11), .ref (mq 12), .ref (mq 13), .int 0, .ref (mq 14), .ref (mq 15), .ref (mq 16), .ref (mq 17), .ref (mq 18), .int 0, .int 0, .int 0, .int 0, .int 0, .int 0, .int 0, .int (-1), .ref (mq 19), .ref (mq 20), .ref (mq 21), .ref (mq 22), .ref (mq 23), .ref (mq 24), .int 0, .int 0, .int 0, .ref (mq 25), .ref (mq 26), .ref (mq 27), .ref (mq 28), .ref (mq 29)])), (mc11 cy mh mq)] := hD
  refine lv_iload_n hx hb dX12_ticks_5 rfl (lv_at hl 1 rfl) ?_
  refine lv_iconst (v := 1) hx hb dX12_ticks_6 (by decide) ?_
  refine lv_sipush (v := 200) hx hb dX12_ticks_7 (by decide) ?_
  refine cl_i (wr := [(mh, .inr (12, [.int 0, .int 100, .int 200, .int 5, .int 100, .int 0, .int 0, .int 0, .int 0, .int 0, .int 0, .ref (mq 0), .int 0, .ref (mq 1), .ref (mq 2), .ref (mq 3), .ref (mq 4), .ref (mq 5), .ref (mq 6), .ref (mq 7), .ref (mq 8), .ref (mq 9), .ref (mq 10), .int 0, .ref (mq 11), .ref (mq 12), .ref (mq 13), .int 0, .ref (mq 14), .ref (mq 15), .ref (mq 16), .ref (mq 17), .ref (mq 18), .int 0, .int 0, .int 0, .int 0, .int 0, .int 0, .int 0, .int (-1), .ref (mq 19), .ref (mq 20), .ref (mq 21), .ref (mq 22), .ref (mq 23), .ref (mq 24), .int 0, .int 0, .int 0, .ref (mq 25), .ref (mq 26), .ref (mq 27), .ref (mq 28), .ref (mq 29)])), (mc11 cy mh mq)]) (va_runS (As := [.int xn, .int 1, .int 200]) (rest := []) ⟨hx, hb, hml, hown, hts⟩ (c_within l D cy xn 1 200 _) (va_cwS 3 hts gX12_ticks_X12_within rfl rfl rfl (by decide +kernel) ⟨(Nat.le_of_ble_eq_true rfl), (Nat.le_of_ble_eq_true rfl)⟩) (pre_S hKX hP hD [] rfl (by decide) rfl) rfl rfl hl.1 rfl (lv_room (Nat.le_of_ble_eq_true rfl)) dX12_ticks_10 ⟨(Nat.le_of_ble_eq_true rfl), (Nat.le_of_ble_eq_true rfl)⟩) hP hD hS hA [] [0, 1] rfl rfl (by decide) (by decide) (fun u1 H locs _ hP hD hS => ?_)
  have hP : va_P D vwCl [(mh, .inr (12, [.int 0, .int 100, .int 200, .int 5, .int 100, .int 0, .int 0, .int 0, .int 0, .int 0, .int 0, .ref (mq 0), .int 0, .ref (mq 1), .ref (mq 2), .ref (mq 3), .ref (mq 4), .ref (mq 5), .ref (mq 6), .ref (mq 7), .ref (mq 8), .ref (mq 9), .ref (mq 10), .int 0, .ref (mq 11), .ref (mq 12), .ref (mq 13), .int 0, .ref (mq 14), .ref (mq 15), .ref (mq 16), .ref (mq 17), .ref (mq 18), .int 0, .int 0, .int 0, .int 0, .int 0, .int 0, .int 0, .int (-1), .ref (mq 19), .ref (mq 20), .ref (mq 21), .ref (mq 22), .ref (mq 23), .ref (mq 24), .int 0, .int 0, .int 0, .ref (mq 25), .ref (mq 26), .ref (mq 27), .ref (mq 28), .ref (mq 29)])), (mc11 cy mh mq)] H := hP
  have hD : va_D A [(mh, .inr (12, [.int 0, .int 100, .int 200, .int 5, .int 100, .int 0, .int 0, .int 0, .int 0, .int 0, .int 0, .ref (mq 0), .int 0, .ref (mq 1), .ref (mq 2), .ref (mq 3), .ref (mq 4), .ref (mq 5), .ref (mq 6), .ref (mq 7), .ref (mq 8), .ref (mq 9), .ref (mq 10), .int 0, .ref (mq 11), .ref (mq 12), .ref (mq 13), .int 0, .ref (mq 14), .ref (mq 15), .ref (mq 16), .ref (mq 17), .ref (mq 18), .int 0, .int 0, .int 0, .int 0, .int 0, .int 0, .int 0, .int (-1), .ref (mq 19), .ref (mq 20), .ref (mq 21), .ref (mq 22), .ref (mq 23), .ref (mq 24), .int 0, .int 0, .int 0, .ref (mq 25), .ref (mq 26), .ref (mq 27), .ref (mq 28), .ref (mq 29)])), (mc11 cy mh mq)] := hD
  refine lv_if_ne (tgt := 18) hx hb dX12_ticks_13 (by decide) (fun c2 => ?_) (fun c2 => ?_)
  · refine lv_iconst (v := 0) hx hb dX12_ticks_18 (by decide) ?_
    refine lv_istore_n (lv' := [(2, .int 0), (0, .ref mh), (1, .int xn)]) hx hb dX12_ticks_19 rfl hl (by decide) rfl (fun ls hl => ?_)
    obtain ⟨N, hN1, hN2, rfl⟩ := wi_nat (x := xn) (lo := 1) (hi := 200) (by decide) (by decide) c2
    have loop : ∀ (k j : Nat) (H : Heap) (locs : List Loc) (ls : Array Slot), j + k = N → va_P D vwCl [(mc11 cy mh mq), (mh, .inr (12, [.int 0, .int 100, .int 200, .int 5, .int 100, .int 0, .int (nI j), .int 0, .int 0, .int 0, .int 0, .ref (mq 0), .int 0, .ref (mq 1), .ref (mq 2), .ref (mq 3), .ref (mq 4), .ref (mq 5), .ref (mq 6), .ref (mq 7), .ref (mq 8), .ref (mq 9), .ref (mq 10), .int 0, .ref (mq 11), .ref (mq 12), .ref (mq 13), .int 0, .ref (mq 14), .ref (mq 15), .ref (mq 16), .ref (mq 17), .ref (mq 18), .int 0, .int 0, .int 0, .int 0, .int 0, .int 0, .int 0, .int (-1), .ref (mq 19), .ref (mq 20), .ref (mq 21), .ref (mq 22), .ref (mq 23), .ref (mq 24), .int 0, .int 0, .int 0, .ref (mq 25), .ref (mq 26), .ref (mq 27), .ref (mq 28), .ref (mq 29)]))] H → va_D A [(mc11 cy mh mq), (mh, .inr (12, [.int 0, .int 100, .int 200, .int 5, .int 100, .int 0, .int (nI j), .int 0, .int 0, .int 0, .int 0, .ref (mq 0), .int 0, .ref (mq 1), .ref (mq 2), .ref (mq 3), .ref (mq 4), .ref (mq 5), .ref (mq 6), .ref (mq 7), .ref (mq 8), .ref (mq 9), .ref (mq 10), .int 0, .ref (mq 11), .ref (mq 12), .ref (mq 13), .int 0, .ref (mq 14), .ref (mq 15), .ref (mq 16), .ref (mq 17), .ref (mq 18), .int 0, .int 0, .int 0, .int 0, .int 0, .int 0, .int 0, .int (-1), .ref (mq 19), .ref (mq 20), .ref (mq 21), .ref (mq 22), .ref (mq 23), .ref (mq 24), .int 0, .int 0, .int 0, .ref (mq 25), .ref (mq 26), .ref (mq 27), .ref (mq 28), .ref (mq 29)]))] → va_S A s.heap H locs → lv_has ls 3 [(2, .int (nI j)), (0, .ref mh), (1, .int (nI N))] → W p l e (headSpec wsX12_ticks ({ frames := 2, cells := 0, slots := 0, locals := 50 })).room s m ([.ref mh, .int (nI N)] : List Value).toArray below meth c H locs 0 0 (MQ below (wQi D (fTicks (nI N)) (fun _ : Unit => True) (fun _u : Unit => []) A) ([.ref mh, .int (nI N)] : List Value).toArray s 0 0 A) (F0 m 20 ls []) := by
      intro k
      induction k with
      | zero =>
        intro j H locs ls hj hP hD hS hl
        obtain rfl : j = N := by omega
        refine lv_iload_n hx hb dX12_ticks_20 rfl (lv_at hl 0 rfl) ?_
        refine lv_iload_n hx hb dX12_ticks_21 rfl (lv_at hl 2 rfl) ?_
        refine lv_icmp_ge (tgt := 35) hx hb dX12_ticks_22 (by decide) (fun _ => ?_) (fun c9 => absurd (nI_le (Nat.le_refl j) (by omega)) c9)
        refine lv_aload_n hx hb dX12_ticks_35 rfl (lv_at hl 1 rfl) ?_
        refine va_get (D := D) (ci := 12) (v := .int (nI j)) (C := RX12) (T := TX12) (N := 55) hx hb hts iw_X12_ticks_X12 hown hKX.1 hP 1 rfl rfl 6 (by decide) (hts (.fieldLink RX12 152 "TrainFerryModel" "tick" "I") (by decide +kernel)) (fun _ h9 => h9) rfl dX12_ticks_36 ?_
        exact en_i hx hb hr hlocks () (by simp [fTicks, c2]) trivial (hP.sub [] rfl) (hD.sub [] (by decide) rfl) hS (Nat.le_of_ble_eq_true rfl) (Nat.le_of_ble_eq_true rfl) dX12_ticks_39
      | succ k ih =>
        intro j H locs ls hj hP hD hS hl
        refine lv_iload_n hx hb dX12_ticks_20 rfl (lv_at hl 0 rfl) ?_
        refine lv_iload_n hx hb dX12_ticks_21 rfl (lv_at hl 2 rfl) ?_
        refine lv_icmp_ge (tgt := 35) hx hb dX12_ticks_22 (by decide) (fun c9 => absurd c9 (nI_ge (by omega) (by omega))) (fun _ => ?_)
        refine lv_aload_n hx hb dX12_ticks_25 rfl (lv_at hl 1 rfl) ?_
        refine cl_v (wr := []) (va_runV (As := []) (rest := []) ⟨hx, hb, hml, hown, hts⟩ (c_goes l D cy mh mq (nI j) _) (cwV 0 hts gX12_ticks_X12_goes rfl rfl rfl (by decide +kernel) ⟨(Nat.le_of_ble_eq_true rfl), (Nat.le_of_ble_eq_true rfl)⟩) (pre_V hKX hP hD (ci := 12) (q0 := 1) rfl rfl [1, 0] rfl (by decide) rfl) rfl rfl hl.1 rfl (lv_room (Nat.le_of_ble_eq_true rfl)) dX12_ticks_26 ⟨(Nat.le_of_ble_eq_true rfl), (Nat.le_of_ble_eq_true rfl)⟩) hP hD hS hA [1, 0] [] rfl rfl (by decide) (by decide) (fun u3 H locs _ hP hD hS => ?_)
        have hP : va_P D vwCl [(mc11 cy mh mq), (mh, .inr (12, [.int 0, .int 100, .int 200, .int 5, .int 100, .int 0, .int ((nI j) + 1), .int 0, .int 0, .int 0, .int 0, .ref (mq 0), .int 0, .ref (mq 1), .ref (mq 2), .ref (mq 3), .ref (mq 4), .ref (mq 5), .ref (mq 6), .ref (mq 7), .ref (mq 8), .ref (mq 9), .ref (mq 10), .int 0, .ref (mq 11), .ref (mq 12), .ref (mq 13), .int 0, .ref (mq 14), .ref (mq 15), .ref (mq 16), .ref (mq 17), .ref (mq 18), .int 0, .int 0, .int 0, .int 0, .int 0, .int 0, .int 0, .int (-1), .ref (mq 19), .ref (mq 20), .ref (mq 21), .ref (mq 22), .ref (mq 23), .ref (mq 24), .int 0, .int 0, .int 0, .ref (mq 25), .ref (mq 26), .ref (mq 27), .ref (mq 28), .ref (mq 29)]))] H := hP
        have hD : va_D A [(mc11 cy mh mq), (mh, .inr (12, [.int 0, .int 100, .int 200, .int 5, .int 100, .int 0, .int ((nI j) + 1), .int 0, .int 0, .int 0, .int 0, .ref (mq 0), .int 0, .ref (mq 1), .ref (mq 2), .ref (mq 3), .ref (mq 4), .ref (mq 5), .ref (mq 6), .ref (mq 7), .ref (mq 8), .ref (mq 9), .ref (mq 10), .int 0, .ref (mq 11), .ref (mq 12), .ref (mq 13), .int 0, .ref (mq 14), .ref (mq 15), .ref (mq 16), .ref (mq 17), .ref (mq 18), .int 0, .int 0, .int 0, .int 0, .int 0, .int 0, .int 0, .int (-1), .ref (mq 19), .ref (mq 20), .ref (mq 21), .ref (mq 22), .ref (mq 23), .ref (mq 24), .int 0, .int 0, .int 0, .ref (mq 25), .ref (mq 26), .ref (mq 27), .ref (mq 28), .ref (mq 29)]))] := hD
        refine lv_iinc (v := ((nI j) + 1)) (lv' := [(2, .int ((nI j) + 1)), (0, .ref mh), (1, .int (nI N))]) hx hb dX12_ticks_29 hl (k := 0) rfl (by rfl) (by decide) rfl (fun ls hl => ?_)
        refine lv_goto (tgt := 20) hx hb dX12_ticks_32 (by decide) ?_
        rw [nI_1] at hP hD hl
        refine W.widen (k := 0) (n := 0) (by decide) (by decide) ?_
        exact ih (j + 1) _ _ _ (by omega) (hP.sub [0, 1] rfl) (hD.sub [0, 1] (by decide) rfl) hS (lv_sub hl [0, 1, 2] rfl)
    exact loop N 0 _ _ _ (by omega) (hP.sub [1, 0] rfl) (hD.sub [1, 0] (by decide) rfl) hS (lv_sub hl [0, 1, 2] rfl)
  · refine lv_iconst (v := (-1)) hx hb dX12_ticks_16 (by decide) ?_
    exact en_i hx hb hr hlocks () (by simp [fTicks, c2]) trivial (hP.sub [] rfl) (hD.sub [] (by decide) rfl) hS (Nat.le_of_ble_eq_true rfl) (Nat.le_of_ble_eq_true rfl) dX12_ticks_17
theorem iw_X12_feed_X12 : ∀ w ∈ wsX120, w ∈ wsX12_feed := by decide +kernel
set_option maxHeartbeats 4000000 in
set_option maxRecDepth 100000 in
theorem m_feed (l : Launch) (D : va_G) (cy : Nat → ClassId) (mh : Nat) (mq : Nat → Nat) (xa : Int32) (xb : Int32) (xc : Int32) (xd : Int32) (xe : Int32) (sz : Nat) : Met l yX12_feed wsX12_feed ({ frames := 0, cells := 0, slots := 0, locals := 0 }) (wPre D cy [.ref mh, .int xa, .int xb, .int xc, .int xd, .int xe] sz [(mc0 cy mh mq), (mc19 cy mh mq)]) (wQi D 20 (fun _ : Unit => True) (fun _u : Unit => []) (va_A [(mc0 cy mh mq), (mc19 cy mh mq)] sz)) 0 0 (va_A [(mc0 cy mh mq), (mc19 cy mh mq)] sz) := by
  refine met_go (y := yX12_feed) (ws := wsX12_feed) (av := [.ref mh, .int xa, .int xb, .int xc, .int xd, .int xe]) (cc := cX12_feed) (maxL := 8) (ret := (some .int)) (Qc := fun A => wQi D 20 (fun _ : Unit => True) (fun _u : Unit => []) A) (by decide) rfl (Nat.le_of_ble_eq_true rfl) ?_
  intro p e s m below meth c ls A hx hb hr hml hown hts hlocks hname hKX hP hD hA hS hl
  have hown : s.vm.findClass RX12 = some m.cls := hown
  have hl : lv_has ls 8 [(0, .ref mh), (1, .int xa), (2, .int xb), (3, .int xc), (4, .int xd), (5, .int xe)] := hl
  refine lv_aload_n hx hb dX12_feed_0 rfl (lv_at hl 0 rfl) ?_
  refine lv_iconst (v := 0) hx hb dX12_feed_1 (by decide) ?_
  refine va_put (D := D) (ci := 12) (v := .int 0) (ty := .int) (C := RX12) (T := TX12) (N := 55) hx hb hts iw_X12_feed_X12 tyX12 tyX12_ok nmX12 hown hKX.1 hP hD hS 0 rfl rfl 0 (by decide) (hts (.fieldLink RX12 1 "TrainFerryModel" "thrown" "I") (by decide +kernel)) (fun _ h9 => h9) rfl (by decide +kernel) rfl rfl (Nat.le_of_ble_eq_true rfl) dX12_feed_2 (fun H locs hP hD hS => ?_)
  have hP : va_P D vwCl [(mh, .inr (12, [.int 0, .int 100, .int 200, .int 5, .int 100, .int 0, .int 0, .int 0, .int 0, .int 0, .int 0, .ref (mq 0), .int 0, .ref (mq 1), .ref (mq 2), .ref (mq 3), .ref (mq 4), .ref (mq 5), .ref (mq 6), .ref (mq 7), .ref (mq 8), .ref (mq 9), .ref (mq 10), .int 0, .ref (mq 11), .ref (mq 12), .ref (mq 13), .int 0, .ref (mq 14), .ref (mq 15), .ref (mq 16), .ref (mq 17), .ref (mq 18), .int 0, .int 0, .int 0, .int 0, .int 0, .int 0, .int 0, .int (-1), .ref (mq 19), .ref (mq 20), .ref (mq 21), .ref (mq 22), .ref (mq 23), .ref (mq 24), .int 0, .int 0, .int 0, .ref (mq 25), .ref (mq 26), .ref (mq 27), .ref (mq 28), .ref (mq 29)])), (mc19 cy mh mq)] H := hP
  have hD : va_D A [(mh, .inr (12, [.int 0, .int 100, .int 200, .int 5, .int 100, .int 0, .int 0, .int 0, .int 0, .int 0, .int 0, .ref (mq 0), .int 0, .ref (mq 1), .ref (mq 2), .ref (mq 3), .ref (mq 4), .ref (mq 5), .ref (mq 6), .ref (mq 7), .ref (mq 8), .ref (mq 9), .ref (mq 10), .int 0, .ref (mq 11), .ref (mq 12), .ref (mq 13), .int 0, .ref (mq 14), .ref (mq 15), .ref (mq 16), .ref (mq 17), .ref (mq 18), .int 0, .int 0, .int 0, .int 0, .int 0, .int 0, .int 0, .int (-1), .ref (mq 19), .ref (mq 20), .ref (mq 21), .ref (mq 22), .ref (mq 23), .ref (mq 24), .int 0, .int 0, .int 0, .ref (mq 25), .ref (mq 26), .ref (mq 27), .ref (mq 28), .ref (mq 29)])), (mc19 cy mh mq)] := hD
  refine lv_aload_n hx hb dX12_feed_5 rfl (lv_at hl 0 rfl) ?_
  refine va_get (D := D) (ci := 12) (v := .int 0) (C := RX12) (T := TX12) (N := 55) hx hb hts iw_X12_feed_X12 hown hKX.1 hP 0 rfl rfl 33 (by decide) (hts (.fieldLink RX12 196 "TrainFerryModel" "taped" "I") (by decide +kernel)) (fun _ h9 => h9) rfl dX12_feed_6 ?_
  refine lv_bipush (v := 20) hx hb dX12_feed_9 (by decide) ?_
  refine lv_iadd hx hb dX12_feed_11 ?_
  refine lv_cst 20 (by decide) ?_
  refine lv_sipush (v := 300) hx hb dX12_feed_12 (by decide) ?_
  refine lv_icmp_le (tgt := 20) hx hb dX12_feed_15 (by decide) (fun _ => ?_) (fun c9 => absurd (by decide) c9)
  refine lv_iconst (v := 0) hx hb dX12_feed_20 (by decide) ?_
  refine lv_istore (lv' := [(6, .int 0), (0, .ref mh), (1, .int xa), (2, .int xb), (3, .int xc), (4, .int xd), (5, .int xe)]) hx hb dX12_feed_21 hl (by decide) rfl (fun ls hl => ?_)
  refine lv_iload hx hb dX12_feed_23 (lv_at hl 0 rfl) ?_
  refine lv_bipush (v := 20) hx hb dX12_feed_25 (by decide) ?_
  refine lv_icmp_ge (tgt := 117) hx hb dX12_feed_27 (by decide) (fun c9 => absurd c9 (by decide)) (fun _ => ?_)
  refine lv_iload hx hb dX12_feed_30 (lv_at hl 0 rfl) ?_
  refine lv_iconst (v := 4) hx hb dX12_feed_32 (by decide) ?_
  refine lv_icmp_ge (tgt := 40) hx hb dX12_feed_33 (by decide) (fun c9 => absurd c9 (by decide)) (fun _ => ?_)
  refine lv_iload_n hx hb dX12_feed_36 rfl (lv_at hl 2 rfl) ?_
  refine lv_goto (tgt := 76) hx hb dX12_feed_37 (by decide) ?_
  refine lv_istore (lv' := [(7, .int xa), (6, .int 0), (0, .ref mh), (1, .int xa), (2, .int xb), (3, .int xc), (4, .int xd), (5, .int xe)]) hx hb dX12_feed_76 hl (by decide) rfl (fun ls hl => ?_)
  refine lv_aload_n hx hb dX12_feed_78 rfl (lv_at hl 2 rfl) ?_
  refine va_get (D := D) (ci := 12) (v := .ref (mq 18)) (C := RX12) (T := TX12) (N := 55) hx hb hts iw_X12_feed_X12 hown hKX.1 hP 0 rfl rfl 32 (by decide) (hts (.fieldLink RX12 82 "TrainFerryModel" "tape" "[B") (by decide +kernel)) (fun _ h9 => h9) rfl dX12_feed_79 ?_
  refine lv_aload_n hx hb dX12_feed_82 rfl (lv_at hl 2 rfl) ?_
  refine va_get (D := D) (ci := 12) (v := .int 0) (C := RX12) (T := TX12) (N := 55) hx hb hts iw_X12_feed_X12 hown hKX.1 hP 0 rfl rfl 33 (by decide) (hts (.fieldLink RX12 196 "TrainFerryModel" "taped" "I") (by decide +kernel)) (fun _ h9 => h9) rfl dX12_feed_83 ?_
  refine lv_iload hx hb dX12_feed_86 (lv_at hl 0 rfl) ?_
  refine lv_bipush (v := 24) hx hb dX12_feed_88 (by decide) ?_
  refine lv_bipush (v := 8) hx hb dX12_feed_90 (by decide) ?_
  refine lv_iload hx hb dX12_feed_92 (lv_at hl 1 rfl) ?_
  refine lv_iconst (v := 4) hx hb dX12_feed_94 (by decide) ?_
  refine lv_irem hx hb dX12_feed_95 (by decide) ?_
  refine lv_cst 0 (by decide) ?_
  refine lv_imul hx hb dX12_feed_96 ?_
  refine lv_cst 0 (by decide) ?_
  refine lv_isub hx hb dX12_feed_97 ?_
  refine lv_cst 24 (by decide) ?_
  refine lv_ishr hx hb dX12_feed_98 ?_
  refine lv_i2b (v := _) hx hb dX12_feed_99 rfl ?_
  refine lv_topi (fun z1 _ => ?_)
  refine va_bast hx hb hKX.1 hP hD hS 1 3 rfl rfl (vind (by decide)) dX12_feed_100 (fun H locs hP hD hS => ?_)
  have hP : va_P D vwCl [(mh, .inr (12, [.int 0, .int 100, .int 200, .int 5, .int 100, .int 0, .int 0, .int 0, .int 0, .int 0, .int 0, .ref (mq 0), .int 0, .ref (mq 1), .ref (mq 2), .ref (mq 3), .ref (mq 4), .ref (mq 5), .ref (mq 6), .ref (mq 7), .ref (mq 8), .ref (mq 9), .ref (mq 10), .int 0, .ref (mq 11), .ref (mq 12), .ref (mq 13), .int 0, .ref (mq 14), .ref (mq 15), .ref (mq 16), .ref (mq 17), .ref (mq 18), .int 0, .int 0, .int 0, .int 0, .int 0, .int 0, .int 0, .int (-1), .ref (mq 19), .ref (mq 20), .ref (mq 21), .ref (mq 22), .ref (mq 23), .ref (mq 24), .int 0, .int 0, .int 0, .ref (mq 25), .ref (mq 26), .ref (mq 27), .ref (mq 28), .ref (mq 29)])), ((mq 18), .inl (cy 3, 300, .inl (upd (fun _ => 0) (Int32.toNatClampNeg 0) (vp_nar .byte z1))))] H := hP
  have hD : va_D A [(mh, .inr (12, [.int 0, .int 100, .int 200, .int 5, .int 100, .int 0, .int 0, .int 0, .int 0, .int 0, .int 0, .ref (mq 0), .int 0, .ref (mq 1), .ref (mq 2), .ref (mq 3), .ref (mq 4), .ref (mq 5), .ref (mq 6), .ref (mq 7), .ref (mq 8), .ref (mq 9), .ref (mq 10), .int 0, .ref (mq 11), .ref (mq 12), .ref (mq 13), .int 0, .ref (mq 14), .ref (mq 15), .ref (mq 16), .ref (mq 17), .ref (mq 18), .int 0, .int 0, .int 0, .int 0, .int 0, .int 0, .int 0, .int (-1), .ref (mq 19), .ref (mq 20), .ref (mq 21), .ref (mq 22), .ref (mq 23), .ref (mq 24), .int 0, .int 0, .int 0, .ref (mq 25), .ref (mq 26), .ref (mq 27), .ref (mq 28), .ref (mq 29)])), ((mq 18), .inl (cy 3, 300, .inl (upd (fun _ => 0) (Int32.toNatClampNeg 0) (vp_nar .byte z1))))] := hD
  generalize (upd (fun _ => 0) (Int32.toNatClampNeg 0) (vp_nar .byte z1) : Nat → Int32) = g2 at hP hD
  refine lv_aload_n hx hb dX12_feed_101 rfl (lv_at hl 2 rfl) ?_
  refine lv_dup hx hb dX12_feed_102 rfl ?_
  refine va_get (D := D) (ci := 12) (v := .int 0) (C := RX12) (T := TX12) (N := 55) hx hb hts iw_X12_feed_X12 hown hKX.1 hP 0 rfl rfl 33 (by decide) (hts (.fieldLink RX12 196 "TrainFerryModel" "taped" "I") (by decide +kernel)) (fun _ h9 => h9) rfl dX12_feed_103 ?_
  refine lv_iconst (v := 1) hx hb dX12_feed_106 (by decide) ?_
  refine lv_iadd hx hb dX12_feed_107 ?_
  refine lv_cst 1 (by decide) ?_
  refine va_put (D := D) (ci := 12) (v := .int 1) (ty := .int) (C := RX12) (T := TX12) (N := 55) hx hb hts iw_X12_feed_X12 tyX12 tyX12_ok nmX12 hown hKX.1 hP hD hS 0 rfl rfl 33 (by decide) (hts (.fieldLink RX12 196 "TrainFerryModel" "taped" "I") (by decide +kernel)) (fun _ h9 => h9) rfl (by decide +kernel) rfl rfl (Nat.le_of_ble_eq_true rfl) dX12_feed_108 (fun H locs hP hD hS => ?_)
  have hP : va_P D vwCl [(mh, .inr (12, [.int 0, .int 100, .int 200, .int 5, .int 100, .int 0, .int 0, .int 0, .int 0, .int 0, .int 0, .ref (mq 0), .int 0, .ref (mq 1), .ref (mq 2), .ref (mq 3), .ref (mq 4), .ref (mq 5), .ref (mq 6), .ref (mq 7), .ref (mq 8), .ref (mq 9), .ref (mq 10), .int 0, .ref (mq 11), .ref (mq 12), .ref (mq 13), .int 0, .ref (mq 14), .ref (mq 15), .ref (mq 16), .ref (mq 17), .ref (mq 18), .int 1, .int 0, .int 0, .int 0, .int 0, .int 0, .int 0, .int (-1), .ref (mq 19), .ref (mq 20), .ref (mq 21), .ref (mq 22), .ref (mq 23), .ref (mq 24), .int 0, .int 0, .int 0, .ref (mq 25), .ref (mq 26), .ref (mq 27), .ref (mq 28), .ref (mq 29)])), ((mq 18), .inl (cy 3, 300, .inl g2))] H := hP
  have hD : va_D A [(mh, .inr (12, [.int 0, .int 100, .int 200, .int 5, .int 100, .int 0, .int 0, .int 0, .int 0, .int 0, .int 0, .ref (mq 0), .int 0, .ref (mq 1), .ref (mq 2), .ref (mq 3), .ref (mq 4), .ref (mq 5), .ref (mq 6), .ref (mq 7), .ref (mq 8), .ref (mq 9), .ref (mq 10), .int 0, .ref (mq 11), .ref (mq 12), .ref (mq 13), .int 0, .ref (mq 14), .ref (mq 15), .ref (mq 16), .ref (mq 17), .ref (mq 18), .int 1, .int 0, .int 0, .int 0, .int 0, .int 0, .int 0, .int (-1), .ref (mq 19), .ref (mq 20), .ref (mq 21), .ref (mq 22), .ref (mq 23), .ref (mq 24), .int 0, .int 0, .int 0, .ref (mq 25), .ref (mq 26), .ref (mq 27), .ref (mq 28), .ref (mq 29)])), ((mq 18), .inl (cy 3, 300, .inl g2))] := hD
  refine lv_iinc (v := 1) (lv' := [(6, .int 1), (7, .int xa), (0, .ref mh), (1, .int xa), (2, .int xb), (3, .int xc), (4, .int xd), (5, .int xe)]) hx hb dX12_feed_111 hl (k := 1) rfl (by decide) (by decide) rfl (fun ls hl => ?_)
  refine lv_goto (tgt := 23) hx hb dX12_feed_114 (by decide) ?_
  refine lv_iload hx hb dX12_feed_23 (lv_at hl 0 rfl) ?_
  refine lv_bipush (v := 20) hx hb dX12_feed_25 (by decide) ?_
  refine lv_icmp_ge (tgt := 117) hx hb dX12_feed_27 (by decide) (fun c9 => absurd c9 (by decide)) (fun _ => ?_)
  refine lv_iload hx hb dX12_feed_30 (lv_at hl 0 rfl) ?_
  refine lv_iconst (v := 4) hx hb dX12_feed_32 (by decide) ?_
  refine lv_icmp_ge (tgt := 40) hx hb dX12_feed_33 (by decide) (fun c9 => absurd c9 (by decide)) (fun _ => ?_)
  refine lv_iload_n hx hb dX12_feed_36 rfl (lv_at hl 3 rfl) ?_
  refine lv_goto (tgt := 76) hx hb dX12_feed_37 (by decide) ?_
  refine lv_istore (lv' := [(7, .int xa), (6, .int 1), (0, .ref mh), (1, .int xa), (2, .int xb), (3, .int xc), (4, .int xd), (5, .int xe)]) hx hb dX12_feed_76 hl (by decide) rfl (fun ls hl => ?_)
  refine lv_aload_n hx hb dX12_feed_78 rfl (lv_at hl 2 rfl) ?_
  refine va_get (D := D) (ci := 12) (v := .ref (mq 18)) (C := RX12) (T := TX12) (N := 55) hx hb hts iw_X12_feed_X12 hown hKX.1 hP 0 rfl rfl 32 (by decide) (hts (.fieldLink RX12 82 "TrainFerryModel" "tape" "[B") (by decide +kernel)) (fun _ h9 => h9) rfl dX12_feed_79 ?_
  refine lv_aload_n hx hb dX12_feed_82 rfl (lv_at hl 2 rfl) ?_
  refine va_get (D := D) (ci := 12) (v := .int 1) (C := RX12) (T := TX12) (N := 55) hx hb hts iw_X12_feed_X12 hown hKX.1 hP 0 rfl rfl 33 (by decide) (hts (.fieldLink RX12 196 "TrainFerryModel" "taped" "I") (by decide +kernel)) (fun _ h9 => h9) rfl dX12_feed_83 ?_
  refine lv_iload hx hb dX12_feed_86 (lv_at hl 0 rfl) ?_
  refine lv_bipush (v := 24) hx hb dX12_feed_88 (by decide) ?_
  refine lv_bipush (v := 8) hx hb dX12_feed_90 (by decide) ?_
  refine lv_iload hx hb dX12_feed_92 (lv_at hl 1 rfl) ?_
  refine lv_iconst (v := 4) hx hb dX12_feed_94 (by decide) ?_
  refine lv_irem hx hb dX12_feed_95 (by decide) ?_
  refine lv_cst 1 (by decide) ?_
  refine lv_imul hx hb dX12_feed_96 ?_
  refine lv_cst 8 (by decide) ?_
  refine lv_isub hx hb dX12_feed_97 ?_
  refine lv_cst 16 (by decide) ?_
  refine lv_ishr hx hb dX12_feed_98 ?_
  refine lv_i2b (v := _) hx hb dX12_feed_99 rfl ?_
  refine lv_topi (fun z3 _ => ?_)
  refine va_bast hx hb hKX.1 hP hD hS 1 3 rfl rfl (vind (by decide)) dX12_feed_100 (fun H locs hP hD hS => ?_)
  have hP : va_P D vwCl [(mh, .inr (12, [.int 0, .int 100, .int 200, .int 5, .int 100, .int 0, .int 0, .int 0, .int 0, .int 0, .int 0, .ref (mq 0), .int 0, .ref (mq 1), .ref (mq 2), .ref (mq 3), .ref (mq 4), .ref (mq 5), .ref (mq 6), .ref (mq 7), .ref (mq 8), .ref (mq 9), .ref (mq 10), .int 0, .ref (mq 11), .ref (mq 12), .ref (mq 13), .int 0, .ref (mq 14), .ref (mq 15), .ref (mq 16), .ref (mq 17), .ref (mq 18), .int 1, .int 0, .int 0, .int 0, .int 0, .int 0, .int 0, .int (-1), .ref (mq 19), .ref (mq 20), .ref (mq 21), .ref (mq 22), .ref (mq 23), .ref (mq 24), .int 0, .int 0, .int 0, .ref (mq 25), .ref (mq 26), .ref (mq 27), .ref (mq 28), .ref (mq 29)])), ((mq 18), .inl (cy 3, 300, .inl (upd g2 (Int32.toNatClampNeg 1) (vp_nar .byte z3))))] H := hP
  have hD : va_D A [(mh, .inr (12, [.int 0, .int 100, .int 200, .int 5, .int 100, .int 0, .int 0, .int 0, .int 0, .int 0, .int 0, .ref (mq 0), .int 0, .ref (mq 1), .ref (mq 2), .ref (mq 3), .ref (mq 4), .ref (mq 5), .ref (mq 6), .ref (mq 7), .ref (mq 8), .ref (mq 9), .ref (mq 10), .int 0, .ref (mq 11), .ref (mq 12), .ref (mq 13), .int 0, .ref (mq 14), .ref (mq 15), .ref (mq 16), .ref (mq 17), .ref (mq 18), .int 1, .int 0, .int 0, .int 0, .int 0, .int 0, .int 0, .int (-1), .ref (mq 19), .ref (mq 20), .ref (mq 21), .ref (mq 22), .ref (mq 23), .ref (mq 24), .int 0, .int 0, .int 0, .ref (mq 25), .ref (mq 26), .ref (mq 27), .ref (mq 28), .ref (mq 29)])), ((mq 18), .inl (cy 3, 300, .inl (upd g2 (Int32.toNatClampNeg 1) (vp_nar .byte z3))))] := hD
  generalize (upd g2 (Int32.toNatClampNeg 1) (vp_nar .byte z3) : Nat → Int32) = g4 at hP hD
  refine lv_aload_n hx hb dX12_feed_101 rfl (lv_at hl 2 rfl) ?_
  refine lv_dup hx hb dX12_feed_102 rfl ?_
  refine va_get (D := D) (ci := 12) (v := .int 1) (C := RX12) (T := TX12) (N := 55) hx hb hts iw_X12_feed_X12 hown hKX.1 hP 0 rfl rfl 33 (by decide) (hts (.fieldLink RX12 196 "TrainFerryModel" "taped" "I") (by decide +kernel)) (fun _ h9 => h9) rfl dX12_feed_103 ?_
  refine lv_iconst (v := 1) hx hb dX12_feed_106 (by decide) ?_
  refine lv_iadd hx hb dX12_feed_107 ?_
  refine lv_cst 2 (by decide) ?_
  refine va_put (D := D) (ci := 12) (v := .int 2) (ty := .int) (C := RX12) (T := TX12) (N := 55) hx hb hts iw_X12_feed_X12 tyX12 tyX12_ok nmX12 hown hKX.1 hP hD hS 0 rfl rfl 33 (by decide) (hts (.fieldLink RX12 196 "TrainFerryModel" "taped" "I") (by decide +kernel)) (fun _ h9 => h9) rfl (by decide +kernel) rfl rfl (Nat.le_of_ble_eq_true rfl) dX12_feed_108 (fun H locs hP hD hS => ?_)
  have hP : va_P D vwCl [(mh, .inr (12, [.int 0, .int 100, .int 200, .int 5, .int 100, .int 0, .int 0, .int 0, .int 0, .int 0, .int 0, .ref (mq 0), .int 0, .ref (mq 1), .ref (mq 2), .ref (mq 3), .ref (mq 4), .ref (mq 5), .ref (mq 6), .ref (mq 7), .ref (mq 8), .ref (mq 9), .ref (mq 10), .int 0, .ref (mq 11), .ref (mq 12), .ref (mq 13), .int 0, .ref (mq 14), .ref (mq 15), .ref (mq 16), .ref (mq 17), .ref (mq 18), .int 2, .int 0, .int 0, .int 0, .int 0, .int 0, .int 0, .int (-1), .ref (mq 19), .ref (mq 20), .ref (mq 21), .ref (mq 22), .ref (mq 23), .ref (mq 24), .int 0, .int 0, .int 0, .ref (mq 25), .ref (mq 26), .ref (mq 27), .ref (mq 28), .ref (mq 29)])), ((mq 18), .inl (cy 3, 300, .inl g4))] H := hP
  have hD : va_D A [(mh, .inr (12, [.int 0, .int 100, .int 200, .int 5, .int 100, .int 0, .int 0, .int 0, .int 0, .int 0, .int 0, .ref (mq 0), .int 0, .ref (mq 1), .ref (mq 2), .ref (mq 3), .ref (mq 4), .ref (mq 5), .ref (mq 6), .ref (mq 7), .ref (mq 8), .ref (mq 9), .ref (mq 10), .int 0, .ref (mq 11), .ref (mq 12), .ref (mq 13), .int 0, .ref (mq 14), .ref (mq 15), .ref (mq 16), .ref (mq 17), .ref (mq 18), .int 2, .int 0, .int 0, .int 0, .int 0, .int 0, .int 0, .int (-1), .ref (mq 19), .ref (mq 20), .ref (mq 21), .ref (mq 22), .ref (mq 23), .ref (mq 24), .int 0, .int 0, .int 0, .ref (mq 25), .ref (mq 26), .ref (mq 27), .ref (mq 28), .ref (mq 29)])), ((mq 18), .inl (cy 3, 300, .inl g4))] := hD
  refine lv_iinc (v := 2) (lv' := [(6, .int 2), (7, .int xa), (0, .ref mh), (1, .int xa), (2, .int xb), (3, .int xc), (4, .int xd), (5, .int xe)]) hx hb dX12_feed_111 hl (k := 1) rfl (by decide) (by decide) rfl (fun ls hl => ?_)
  refine lv_goto (tgt := 23) hx hb dX12_feed_114 (by decide) ?_
  refine lv_iload hx hb dX12_feed_23 (lv_at hl 0 rfl) ?_
  refine lv_bipush (v := 20) hx hb dX12_feed_25 (by decide) ?_
  refine lv_icmp_ge (tgt := 117) hx hb dX12_feed_27 (by decide) (fun c9 => absurd c9 (by decide)) (fun _ => ?_)
  refine lv_iload hx hb dX12_feed_30 (lv_at hl 0 rfl) ?_
  refine lv_iconst (v := 4) hx hb dX12_feed_32 (by decide) ?_
  refine lv_icmp_ge (tgt := 40) hx hb dX12_feed_33 (by decide) (fun c9 => absurd c9 (by decide)) (fun _ => ?_)
  refine lv_iload_n hx hb dX12_feed_36 rfl (lv_at hl 3 rfl) ?_
  refine lv_goto (tgt := 76) hx hb dX12_feed_37 (by decide) ?_
  refine lv_istore (lv' := [(7, .int xa), (6, .int 2), (0, .ref mh), (1, .int xa), (2, .int xb), (3, .int xc), (4, .int xd), (5, .int xe)]) hx hb dX12_feed_76 hl (by decide) rfl (fun ls hl => ?_)
  refine lv_aload_n hx hb dX12_feed_78 rfl (lv_at hl 2 rfl) ?_
  refine va_get (D := D) (ci := 12) (v := .ref (mq 18)) (C := RX12) (T := TX12) (N := 55) hx hb hts iw_X12_feed_X12 hown hKX.1 hP 0 rfl rfl 32 (by decide) (hts (.fieldLink RX12 82 "TrainFerryModel" "tape" "[B") (by decide +kernel)) (fun _ h9 => h9) rfl dX12_feed_79 ?_
  refine lv_aload_n hx hb dX12_feed_82 rfl (lv_at hl 2 rfl) ?_
  refine va_get (D := D) (ci := 12) (v := .int 2) (C := RX12) (T := TX12) (N := 55) hx hb hts iw_X12_feed_X12 hown hKX.1 hP 0 rfl rfl 33 (by decide) (hts (.fieldLink RX12 196 "TrainFerryModel" "taped" "I") (by decide +kernel)) (fun _ h9 => h9) rfl dX12_feed_83 ?_
  refine lv_iload hx hb dX12_feed_86 (lv_at hl 0 rfl) ?_
  refine lv_bipush (v := 24) hx hb dX12_feed_88 (by decide) ?_
  refine lv_bipush (v := 8) hx hb dX12_feed_90 (by decide) ?_
  refine lv_iload hx hb dX12_feed_92 (lv_at hl 1 rfl) ?_
  refine lv_iconst (v := 4) hx hb dX12_feed_94 (by decide) ?_
  refine lv_irem hx hb dX12_feed_95 (by decide) ?_
  refine lv_cst 2 (by decide) ?_
  refine lv_imul hx hb dX12_feed_96 ?_
  refine lv_cst 16 (by decide) ?_
  refine lv_isub hx hb dX12_feed_97 ?_
  refine lv_cst 8 (by decide) ?_
  refine lv_ishr hx hb dX12_feed_98 ?_
  refine lv_i2b (v := _) hx hb dX12_feed_99 rfl ?_
  refine lv_topi (fun z5 _ => ?_)
  refine va_bast hx hb hKX.1 hP hD hS 1 3 rfl rfl (vind (by decide)) dX12_feed_100 (fun H locs hP hD hS => ?_)
  have hP : va_P D vwCl [(mh, .inr (12, [.int 0, .int 100, .int 200, .int 5, .int 100, .int 0, .int 0, .int 0, .int 0, .int 0, .int 0, .ref (mq 0), .int 0, .ref (mq 1), .ref (mq 2), .ref (mq 3), .ref (mq 4), .ref (mq 5), .ref (mq 6), .ref (mq 7), .ref (mq 8), .ref (mq 9), .ref (mq 10), .int 0, .ref (mq 11), .ref (mq 12), .ref (mq 13), .int 0, .ref (mq 14), .ref (mq 15), .ref (mq 16), .ref (mq 17), .ref (mq 18), .int 2, .int 0, .int 0, .int 0, .int 0, .int 0, .int 0, .int (-1), .ref (mq 19), .ref (mq 20), .ref (mq 21), .ref (mq 22), .ref (mq 23), .ref (mq 24), .int 0, .int 0, .int 0, .ref (mq 25), .ref (mq 26), .ref (mq 27), .ref (mq 28), .ref (mq 29)])), ((mq 18), .inl (cy 3, 300, .inl (upd g4 (Int32.toNatClampNeg 2) (vp_nar .byte z5))))] H := hP
  have hD : va_D A [(mh, .inr (12, [.int 0, .int 100, .int 200, .int 5, .int 100, .int 0, .int 0, .int 0, .int 0, .int 0, .int 0, .ref (mq 0), .int 0, .ref (mq 1), .ref (mq 2), .ref (mq 3), .ref (mq 4), .ref (mq 5), .ref (mq 6), .ref (mq 7), .ref (mq 8), .ref (mq 9), .ref (mq 10), .int 0, .ref (mq 11), .ref (mq 12), .ref (mq 13), .int 0, .ref (mq 14), .ref (mq 15), .ref (mq 16), .ref (mq 17), .ref (mq 18), .int 2, .int 0, .int 0, .int 0, .int 0, .int 0, .int 0, .int (-1), .ref (mq 19), .ref (mq 20), .ref (mq 21), .ref (mq 22), .ref (mq 23), .ref (mq 24), .int 0, .int 0, .int 0, .ref (mq 25), .ref (mq 26), .ref (mq 27), .ref (mq 28), .ref (mq 29)])), ((mq 18), .inl (cy 3, 300, .inl (upd g4 (Int32.toNatClampNeg 2) (vp_nar .byte z5))))] := hD
  generalize (upd g4 (Int32.toNatClampNeg 2) (vp_nar .byte z5) : Nat → Int32) = g6 at hP hD
  refine lv_aload_n hx hb dX12_feed_101 rfl (lv_at hl 2 rfl) ?_
  refine lv_dup hx hb dX12_feed_102 rfl ?_
  refine va_get (D := D) (ci := 12) (v := .int 2) (C := RX12) (T := TX12) (N := 55) hx hb hts iw_X12_feed_X12 hown hKX.1 hP 0 rfl rfl 33 (by decide) (hts (.fieldLink RX12 196 "TrainFerryModel" "taped" "I") (by decide +kernel)) (fun _ h9 => h9) rfl dX12_feed_103 ?_
  refine lv_iconst (v := 1) hx hb dX12_feed_106 (by decide) ?_
  refine lv_iadd hx hb dX12_feed_107 ?_
  refine lv_cst 3 (by decide) ?_
  refine va_put (D := D) (ci := 12) (v := .int 3) (ty := .int) (C := RX12) (T := TX12) (N := 55) hx hb hts iw_X12_feed_X12 tyX12 tyX12_ok nmX12 hown hKX.1 hP hD hS 0 rfl rfl 33 (by decide) (hts (.fieldLink RX12 196 "TrainFerryModel" "taped" "I") (by decide +kernel)) (fun _ h9 => h9) rfl (by decide +kernel) rfl rfl (Nat.le_of_ble_eq_true rfl) dX12_feed_108 (fun H locs hP hD hS => ?_)
  have hP : va_P D vwCl [(mh, .inr (12, [.int 0, .int 100, .int 200, .int 5, .int 100, .int 0, .int 0, .int 0, .int 0, .int 0, .int 0, .ref (mq 0), .int 0, .ref (mq 1), .ref (mq 2), .ref (mq 3), .ref (mq 4), .ref (mq 5), .ref (mq 6), .ref (mq 7), .ref (mq 8), .ref (mq 9), .ref (mq 10), .int 0, .ref (mq 11), .ref (mq 12), .ref (mq 13), .int 0, .ref (mq 14), .ref (mq 15), .ref (mq 16), .ref (mq 17), .ref (mq 18), .int 3, .int 0, .int 0, .int 0, .int 0, .int 0, .int 0, .int (-1), .ref (mq 19), .ref (mq 20), .ref (mq 21), .ref (mq 22), .ref (mq 23), .ref (mq 24), .int 0, .int 0, .int 0, .ref (mq 25), .ref (mq 26), .ref (mq 27), .ref (mq 28), .ref (mq 29)])), ((mq 18), .inl (cy 3, 300, .inl g6))] H := hP
  have hD : va_D A [(mh, .inr (12, [.int 0, .int 100, .int 200, .int 5, .int 100, .int 0, .int 0, .int 0, .int 0, .int 0, .int 0, .ref (mq 0), .int 0, .ref (mq 1), .ref (mq 2), .ref (mq 3), .ref (mq 4), .ref (mq 5), .ref (mq 6), .ref (mq 7), .ref (mq 8), .ref (mq 9), .ref (mq 10), .int 0, .ref (mq 11), .ref (mq 12), .ref (mq 13), .int 0, .ref (mq 14), .ref (mq 15), .ref (mq 16), .ref (mq 17), .ref (mq 18), .int 3, .int 0, .int 0, .int 0, .int 0, .int 0, .int 0, .int (-1), .ref (mq 19), .ref (mq 20), .ref (mq 21), .ref (mq 22), .ref (mq 23), .ref (mq 24), .int 0, .int 0, .int 0, .ref (mq 25), .ref (mq 26), .ref (mq 27), .ref (mq 28), .ref (mq 29)])), ((mq 18), .inl (cy 3, 300, .inl g6))] := hD
  refine lv_iinc (v := 3) (lv' := [(6, .int 3), (7, .int xa), (0, .ref mh), (1, .int xa), (2, .int xb), (3, .int xc), (4, .int xd), (5, .int xe)]) hx hb dX12_feed_111 hl (k := 1) rfl (by decide) (by decide) rfl (fun ls hl => ?_)
  refine lv_goto (tgt := 23) hx hb dX12_feed_114 (by decide) ?_
  refine lv_iload hx hb dX12_feed_23 (lv_at hl 0 rfl) ?_
  refine lv_bipush (v := 20) hx hb dX12_feed_25 (by decide) ?_
  refine lv_icmp_ge (tgt := 117) hx hb dX12_feed_27 (by decide) (fun c9 => absurd c9 (by decide)) (fun _ => ?_)
  refine lv_iload hx hb dX12_feed_30 (lv_at hl 0 rfl) ?_
  refine lv_iconst (v := 4) hx hb dX12_feed_32 (by decide) ?_
  refine lv_icmp_ge (tgt := 40) hx hb dX12_feed_33 (by decide) (fun c9 => absurd c9 (by decide)) (fun _ => ?_)
  refine lv_iload_n hx hb dX12_feed_36 rfl (lv_at hl 3 rfl) ?_
  refine lv_goto (tgt := 76) hx hb dX12_feed_37 (by decide) ?_
  refine lv_istore (lv' := [(7, .int xa), (6, .int 3), (0, .ref mh), (1, .int xa), (2, .int xb), (3, .int xc), (4, .int xd), (5, .int xe)]) hx hb dX12_feed_76 hl (by decide) rfl (fun ls hl => ?_)
  refine lv_aload_n hx hb dX12_feed_78 rfl (lv_at hl 2 rfl) ?_
  refine va_get (D := D) (ci := 12) (v := .ref (mq 18)) (C := RX12) (T := TX12) (N := 55) hx hb hts iw_X12_feed_X12 hown hKX.1 hP 0 rfl rfl 32 (by decide) (hts (.fieldLink RX12 82 "TrainFerryModel" "tape" "[B") (by decide +kernel)) (fun _ h9 => h9) rfl dX12_feed_79 ?_
  refine lv_aload_n hx hb dX12_feed_82 rfl (lv_at hl 2 rfl) ?_
  refine va_get (D := D) (ci := 12) (v := .int 3) (C := RX12) (T := TX12) (N := 55) hx hb hts iw_X12_feed_X12 hown hKX.1 hP 0 rfl rfl 33 (by decide) (hts (.fieldLink RX12 196 "TrainFerryModel" "taped" "I") (by decide +kernel)) (fun _ h9 => h9) rfl dX12_feed_83 ?_
  refine lv_iload hx hb dX12_feed_86 (lv_at hl 0 rfl) ?_
  refine lv_bipush (v := 24) hx hb dX12_feed_88 (by decide) ?_
  refine lv_bipush (v := 8) hx hb dX12_feed_90 (by decide) ?_
  refine lv_iload hx hb dX12_feed_92 (lv_at hl 1 rfl) ?_
  refine lv_iconst (v := 4) hx hb dX12_feed_94 (by decide) ?_
  refine lv_irem hx hb dX12_feed_95 (by decide) ?_
  refine lv_cst 3 (by decide) ?_
  refine lv_imul hx hb dX12_feed_96 ?_
  refine lv_cst 24 (by decide) ?_
  refine lv_isub hx hb dX12_feed_97 ?_
  refine lv_cst 0 (by decide) ?_
  refine lv_ishr hx hb dX12_feed_98 ?_
  refine lv_i2b (v := _) hx hb dX12_feed_99 rfl ?_
  refine lv_topi (fun z7 _ => ?_)
  refine va_bast hx hb hKX.1 hP hD hS 1 3 rfl rfl (vind (by decide)) dX12_feed_100 (fun H locs hP hD hS => ?_)
  have hP : va_P D vwCl [(mh, .inr (12, [.int 0, .int 100, .int 200, .int 5, .int 100, .int 0, .int 0, .int 0, .int 0, .int 0, .int 0, .ref (mq 0), .int 0, .ref (mq 1), .ref (mq 2), .ref (mq 3), .ref (mq 4), .ref (mq 5), .ref (mq 6), .ref (mq 7), .ref (mq 8), .ref (mq 9), .ref (mq 10), .int 0, .ref (mq 11), .ref (mq 12), .ref (mq 13), .int 0, .ref (mq 14), .ref (mq 15), .ref (mq 16), .ref (mq 17), .ref (mq 18), .int 3, .int 0, .int 0, .int 0, .int 0, .int 0, .int 0, .int (-1), .ref (mq 19), .ref (mq 20), .ref (mq 21), .ref (mq 22), .ref (mq 23), .ref (mq 24), .int 0, .int 0, .int 0, .ref (mq 25), .ref (mq 26), .ref (mq 27), .ref (mq 28), .ref (mq 29)])), ((mq 18), .inl (cy 3, 300, .inl (upd g6 (Int32.toNatClampNeg 3) (vp_nar .byte z7))))] H := hP
  have hD : va_D A [(mh, .inr (12, [.int 0, .int 100, .int 200, .int 5, .int 100, .int 0, .int 0, .int 0, .int 0, .int 0, .int 0, .ref (mq 0), .int 0, .ref (mq 1), .ref (mq 2), .ref (mq 3), .ref (mq 4), .ref (mq 5), .ref (mq 6), .ref (mq 7), .ref (mq 8), .ref (mq 9), .ref (mq 10), .int 0, .ref (mq 11), .ref (mq 12), .ref (mq 13), .int 0, .ref (mq 14), .ref (mq 15), .ref (mq 16), .ref (mq 17), .ref (mq 18), .int 3, .int 0, .int 0, .int 0, .int 0, .int 0, .int 0, .int (-1), .ref (mq 19), .ref (mq 20), .ref (mq 21), .ref (mq 22), .ref (mq 23), .ref (mq 24), .int 0, .int 0, .int 0, .ref (mq 25), .ref (mq 26), .ref (mq 27), .ref (mq 28), .ref (mq 29)])), ((mq 18), .inl (cy 3, 300, .inl (upd g6 (Int32.toNatClampNeg 3) (vp_nar .byte z7))))] := hD
  generalize (upd g6 (Int32.toNatClampNeg 3) (vp_nar .byte z7) : Nat → Int32) = g8 at hP hD
  refine lv_aload_n hx hb dX12_feed_101 rfl (lv_at hl 2 rfl) ?_
  refine lv_dup hx hb dX12_feed_102 rfl ?_
  refine va_get (D := D) (ci := 12) (v := .int 3) (C := RX12) (T := TX12) (N := 55) hx hb hts iw_X12_feed_X12 hown hKX.1 hP 0 rfl rfl 33 (by decide) (hts (.fieldLink RX12 196 "TrainFerryModel" "taped" "I") (by decide +kernel)) (fun _ h9 => h9) rfl dX12_feed_103 ?_
  refine lv_iconst (v := 1) hx hb dX12_feed_106 (by decide) ?_
  refine lv_iadd hx hb dX12_feed_107 ?_
  refine lv_cst 4 (by decide) ?_
  refine va_put (D := D) (ci := 12) (v := .int 4) (ty := .int) (C := RX12) (T := TX12) (N := 55) hx hb hts iw_X12_feed_X12 tyX12 tyX12_ok nmX12 hown hKX.1 hP hD hS 0 rfl rfl 33 (by decide) (hts (.fieldLink RX12 196 "TrainFerryModel" "taped" "I") (by decide +kernel)) (fun _ h9 => h9) rfl (by decide +kernel) rfl rfl (Nat.le_of_ble_eq_true rfl) dX12_feed_108 (fun H locs hP hD hS => ?_)
  have hP : va_P D vwCl [(mh, .inr (12, [.int 0, .int 100, .int 200, .int 5, .int 100, .int 0, .int 0, .int 0, .int 0, .int 0, .int 0, .ref (mq 0), .int 0, .ref (mq 1), .ref (mq 2), .ref (mq 3), .ref (mq 4), .ref (mq 5), .ref (mq 6), .ref (mq 7), .ref (mq 8), .ref (mq 9), .ref (mq 10), .int 0, .ref (mq 11), .ref (mq 12), .ref (mq 13), .int 0, .ref (mq 14), .ref (mq 15), .ref (mq 16), .ref (mq 17), .ref (mq 18), .int 4, .int 0, .int 0, .int 0, .int 0, .int 0, .int 0, .int (-1), .ref (mq 19), .ref (mq 20), .ref (mq 21), .ref (mq 22), .ref (mq 23), .ref (mq 24), .int 0, .int 0, .int 0, .ref (mq 25), .ref (mq 26), .ref (mq 27), .ref (mq 28), .ref (mq 29)])), ((mq 18), .inl (cy 3, 300, .inl g8))] H := hP
  have hD : va_D A [(mh, .inr (12, [.int 0, .int 100, .int 200, .int 5, .int 100, .int 0, .int 0, .int 0, .int 0, .int 0, .int 0, .ref (mq 0), .int 0, .ref (mq 1), .ref (mq 2), .ref (mq 3), .ref (mq 4), .ref (mq 5), .ref (mq 6), .ref (mq 7), .ref (mq 8), .ref (mq 9), .ref (mq 10), .int 0, .ref (mq 11), .ref (mq 12), .ref (mq 13), .int 0, .ref (mq 14), .ref (mq 15), .ref (mq 16), .ref (mq 17), .ref (mq 18), .int 4, .int 0, .int 0, .int 0, .int 0, .int 0, .int 0, .int (-1), .ref (mq 19), .ref (mq 20), .ref (mq 21), .ref (mq 22), .ref (mq 23), .ref (mq 24), .int 0, .int 0, .int 0, .ref (mq 25), .ref (mq 26), .ref (mq 27), .ref (mq 28), .ref (mq 29)])), ((mq 18), .inl (cy 3, 300, .inl g8))] := hD
  refine lv_iinc (v := 4) (lv' := [(6, .int 4), (7, .int xa), (0, .ref mh), (1, .int xa), (2, .int xb), (3, .int xc), (4, .int xd), (5, .int xe)]) hx hb dX12_feed_111 hl (k := 1) rfl (by decide) (by decide) rfl (fun ls hl => ?_)
  refine lv_goto (tgt := 23) hx hb dX12_feed_114 (by decide) ?_
  refine lv_iload hx hb dX12_feed_23 (lv_at hl 0 rfl) ?_
  refine lv_bipush (v := 20) hx hb dX12_feed_25 (by decide) ?_
  refine lv_icmp_ge (tgt := 117) hx hb dX12_feed_27 (by decide) (fun c9 => absurd c9 (by decide)) (fun _ => ?_)
  refine lv_iload hx hb dX12_feed_30 (lv_at hl 0 rfl) ?_
  refine lv_iconst (v := 4) hx hb dX12_feed_32 (by decide) ?_
  refine lv_icmp_ge (tgt := 40) hx hb dX12_feed_33 (by decide) (fun _ => ?_) (fun c9 => absurd (by decide) c9)
  refine lv_iload hx hb dX12_feed_40 (lv_at hl 0 rfl) ?_
  refine lv_bipush (v := 8) hx hb dX12_feed_42 (by decide) ?_
  refine lv_icmp_ge (tgt := 51) hx hb dX12_feed_44 (by decide) (fun c9 => absurd c9 (by decide)) (fun _ => ?_)
  refine lv_iload_n hx hb dX12_feed_47 rfl (lv_at hl 4 rfl) ?_
  refine lv_goto (tgt := 76) hx hb dX12_feed_48 (by decide) ?_
  refine lv_istore (lv' := [(7, .int xb), (6, .int 4), (0, .ref mh), (1, .int xa), (2, .int xb), (3, .int xc), (4, .int xd), (5, .int xe)]) hx hb dX12_feed_76 hl (by decide) rfl (fun ls hl => ?_)
  refine lv_aload_n hx hb dX12_feed_78 rfl (lv_at hl 2 rfl) ?_
  refine va_get (D := D) (ci := 12) (v := .ref (mq 18)) (C := RX12) (T := TX12) (N := 55) hx hb hts iw_X12_feed_X12 hown hKX.1 hP 0 rfl rfl 32 (by decide) (hts (.fieldLink RX12 82 "TrainFerryModel" "tape" "[B") (by decide +kernel)) (fun _ h9 => h9) rfl dX12_feed_79 ?_
  refine lv_aload_n hx hb dX12_feed_82 rfl (lv_at hl 2 rfl) ?_
  refine va_get (D := D) (ci := 12) (v := .int 4) (C := RX12) (T := TX12) (N := 55) hx hb hts iw_X12_feed_X12 hown hKX.1 hP 0 rfl rfl 33 (by decide) (hts (.fieldLink RX12 196 "TrainFerryModel" "taped" "I") (by decide +kernel)) (fun _ h9 => h9) rfl dX12_feed_83 ?_
  refine lv_iload hx hb dX12_feed_86 (lv_at hl 0 rfl) ?_
  refine lv_bipush (v := 24) hx hb dX12_feed_88 (by decide) ?_
  refine lv_bipush (v := 8) hx hb dX12_feed_90 (by decide) ?_
  refine lv_iload hx hb dX12_feed_92 (lv_at hl 1 rfl) ?_
  refine lv_iconst (v := 4) hx hb dX12_feed_94 (by decide) ?_
  refine lv_irem hx hb dX12_feed_95 (by decide) ?_
  refine lv_cst 0 (by decide) ?_
  refine lv_imul hx hb dX12_feed_96 ?_
  refine lv_cst 0 (by decide) ?_
  refine lv_isub hx hb dX12_feed_97 ?_
  refine lv_cst 24 (by decide) ?_
  refine lv_ishr hx hb dX12_feed_98 ?_
  refine lv_i2b (v := _) hx hb dX12_feed_99 rfl ?_
  refine lv_topi (fun z9 _ => ?_)
  refine va_bast hx hb hKX.1 hP hD hS 1 3 rfl rfl (vind (by decide)) dX12_feed_100 (fun H locs hP hD hS => ?_)
  have hP : va_P D vwCl [(mh, .inr (12, [.int 0, .int 100, .int 200, .int 5, .int 100, .int 0, .int 0, .int 0, .int 0, .int 0, .int 0, .ref (mq 0), .int 0, .ref (mq 1), .ref (mq 2), .ref (mq 3), .ref (mq 4), .ref (mq 5), .ref (mq 6), .ref (mq 7), .ref (mq 8), .ref (mq 9), .ref (mq 10), .int 0, .ref (mq 11), .ref (mq 12), .ref (mq 13), .int 0, .ref (mq 14), .ref (mq 15), .ref (mq 16), .ref (mq 17), .ref (mq 18), .int 4, .int 0, .int 0, .int 0, .int 0, .int 0, .int 0, .int (-1), .ref (mq 19), .ref (mq 20), .ref (mq 21), .ref (mq 22), .ref (mq 23), .ref (mq 24), .int 0, .int 0, .int 0, .ref (mq 25), .ref (mq 26), .ref (mq 27), .ref (mq 28), .ref (mq 29)])), ((mq 18), .inl (cy 3, 300, .inl (upd g8 (Int32.toNatClampNeg 4) (vp_nar .byte z9))))] H := hP
  have hD : va_D A [(mh, .inr (12, [.int 0, .int 100, .int 200, .int 5, .int 100, .int 0, .int 0, .int 0, .int 0, .int 0, .int 0, .ref (mq 0), .int 0, .ref (mq 1), .ref (mq 2), .ref (mq 3), .ref (mq 4), .ref (mq 5), .ref (mq 6), .ref (mq 7), .ref (mq 8), .ref (mq 9), .ref (mq 10), .int 0, .ref (mq 11), .ref (mq 12), .ref (mq 13), .int 0, .ref (mq 14), .ref (mq 15), .ref (mq 16), .ref (mq 17), .ref (mq 18), .int 4, .int 0, .int 0, .int 0, .int 0, .int 0, .int 0, .int (-1), .ref (mq 19), .ref (mq 20), .ref (mq 21), .ref (mq 22), .ref (mq 23), .ref (mq 24), .int 0, .int 0, .int 0, .ref (mq 25), .ref (mq 26), .ref (mq 27), .ref (mq 28), .ref (mq 29)])), ((mq 18), .inl (cy 3, 300, .inl (upd g8 (Int32.toNatClampNeg 4) (vp_nar .byte z9))))] := hD
  generalize (upd g8 (Int32.toNatClampNeg 4) (vp_nar .byte z9) : Nat → Int32) = g10 at hP hD
  refine lv_aload_n hx hb dX12_feed_101 rfl (lv_at hl 2 rfl) ?_
  refine lv_dup hx hb dX12_feed_102 rfl ?_
  refine va_get (D := D) (ci := 12) (v := .int 4) (C := RX12) (T := TX12) (N := 55) hx hb hts iw_X12_feed_X12 hown hKX.1 hP 0 rfl rfl 33 (by decide) (hts (.fieldLink RX12 196 "TrainFerryModel" "taped" "I") (by decide +kernel)) (fun _ h9 => h9) rfl dX12_feed_103 ?_
  refine lv_iconst (v := 1) hx hb dX12_feed_106 (by decide) ?_
  refine lv_iadd hx hb dX12_feed_107 ?_
  refine lv_cst 5 (by decide) ?_
  refine va_put (D := D) (ci := 12) (v := .int 5) (ty := .int) (C := RX12) (T := TX12) (N := 55) hx hb hts iw_X12_feed_X12 tyX12 tyX12_ok nmX12 hown hKX.1 hP hD hS 0 rfl rfl 33 (by decide) (hts (.fieldLink RX12 196 "TrainFerryModel" "taped" "I") (by decide +kernel)) (fun _ h9 => h9) rfl (by decide +kernel) rfl rfl (Nat.le_of_ble_eq_true rfl) dX12_feed_108 (fun H locs hP hD hS => ?_)
  have hP : va_P D vwCl [(mh, .inr (12, [.int 0, .int 100, .int 200, .int 5, .int 100, .int 0, .int 0, .int 0, .int 0, .int 0, .int 0, .ref (mq 0), .int 0, .ref (mq 1), .ref (mq 2), .ref (mq 3), .ref (mq 4), .ref (mq 5), .ref (mq 6), .ref (mq 7), .ref (mq 8), .ref (mq 9), .ref (mq 10), .int 0, .ref (mq 11), .ref (mq 12), .ref (mq 13), .int 0, .ref (mq 14), .ref (mq 15), .ref (mq 16), .ref (mq 17), .ref (mq 18), .int 5, .int 0, .int 0, .int 0, .int 0, .int 0, .int 0, .int (-1), .ref (mq 19), .ref (mq 20), .ref (mq 21), .ref (mq 22), .ref (mq 23), .ref (mq 24), .int 0, .int 0, .int 0, .ref (mq 25), .ref (mq 26), .ref (mq 27), .ref (mq 28), .ref (mq 29)])), ((mq 18), .inl (cy 3, 300, .inl g10))] H := hP
  have hD : va_D A [(mh, .inr (12, [.int 0, .int 100, .int 200, .int 5, .int 100, .int 0, .int 0, .int 0, .int 0, .int 0, .int 0, .ref (mq 0), .int 0, .ref (mq 1), .ref (mq 2), .ref (mq 3), .ref (mq 4), .ref (mq 5), .ref (mq 6), .ref (mq 7), .ref (mq 8), .ref (mq 9), .ref (mq 10), .int 0, .ref (mq 11), .ref (mq 12), .ref (mq 13), .int 0, .ref (mq 14), .ref (mq 15), .ref (mq 16), .ref (mq 17), .ref (mq 18), .int 5, .int 0, .int 0, .int 0, .int 0, .int 0, .int 0, .int (-1), .ref (mq 19), .ref (mq 20), .ref (mq 21), .ref (mq 22), .ref (mq 23), .ref (mq 24), .int 0, .int 0, .int 0, .ref (mq 25), .ref (mq 26), .ref (mq 27), .ref (mq 28), .ref (mq 29)])), ((mq 18), .inl (cy 3, 300, .inl g10))] := hD
  refine lv_iinc (v := 5) (lv' := [(6, .int 5), (7, .int xb), (0, .ref mh), (1, .int xa), (2, .int xb), (3, .int xc), (4, .int xd), (5, .int xe)]) hx hb dX12_feed_111 hl (k := 1) rfl (by decide) (by decide) rfl (fun ls hl => ?_)
  refine lv_goto (tgt := 23) hx hb dX12_feed_114 (by decide) ?_
  refine lv_iload hx hb dX12_feed_23 (lv_at hl 0 rfl) ?_
  refine lv_bipush (v := 20) hx hb dX12_feed_25 (by decide) ?_
  refine lv_icmp_ge (tgt := 117) hx hb dX12_feed_27 (by decide) (fun c9 => absurd c9 (by decide)) (fun _ => ?_)
  refine lv_iload hx hb dX12_feed_30 (lv_at hl 0 rfl) ?_
  refine lv_iconst (v := 4) hx hb dX12_feed_32 (by decide) ?_
  refine lv_icmp_ge (tgt := 40) hx hb dX12_feed_33 (by decide) (fun _ => ?_) (fun c9 => absurd (by decide) c9)
  refine lv_iload hx hb dX12_feed_40 (lv_at hl 0 rfl) ?_
  refine lv_bipush (v := 8) hx hb dX12_feed_42 (by decide) ?_
  refine lv_icmp_ge (tgt := 51) hx hb dX12_feed_44 (by decide) (fun c9 => absurd c9 (by decide)) (fun _ => ?_)
  refine lv_iload_n hx hb dX12_feed_47 rfl (lv_at hl 4 rfl) ?_
  refine lv_goto (tgt := 76) hx hb dX12_feed_48 (by decide) ?_
  refine lv_istore (lv' := [(7, .int xb), (6, .int 5), (0, .ref mh), (1, .int xa), (2, .int xb), (3, .int xc), (4, .int xd), (5, .int xe)]) hx hb dX12_feed_76 hl (by decide) rfl (fun ls hl => ?_)
  refine lv_aload_n hx hb dX12_feed_78 rfl (lv_at hl 2 rfl) ?_
  refine va_get (D := D) (ci := 12) (v := .ref (mq 18)) (C := RX12) (T := TX12) (N := 55) hx hb hts iw_X12_feed_X12 hown hKX.1 hP 0 rfl rfl 32 (by decide) (hts (.fieldLink RX12 82 "TrainFerryModel" "tape" "[B") (by decide +kernel)) (fun _ h9 => h9) rfl dX12_feed_79 ?_
  refine lv_aload_n hx hb dX12_feed_82 rfl (lv_at hl 2 rfl) ?_
  refine va_get (D := D) (ci := 12) (v := .int 5) (C := RX12) (T := TX12) (N := 55) hx hb hts iw_X12_feed_X12 hown hKX.1 hP 0 rfl rfl 33 (by decide) (hts (.fieldLink RX12 196 "TrainFerryModel" "taped" "I") (by decide +kernel)) (fun _ h9 => h9) rfl dX12_feed_83 ?_
  refine lv_iload hx hb dX12_feed_86 (lv_at hl 0 rfl) ?_
  refine lv_bipush (v := 24) hx hb dX12_feed_88 (by decide) ?_
  refine lv_bipush (v := 8) hx hb dX12_feed_90 (by decide) ?_
  refine lv_iload hx hb dX12_feed_92 (lv_at hl 1 rfl) ?_
  refine lv_iconst (v := 4) hx hb dX12_feed_94 (by decide) ?_
  refine lv_irem hx hb dX12_feed_95 (by decide) ?_
  refine lv_cst 1 (by decide) ?_
  refine lv_imul hx hb dX12_feed_96 ?_
  refine lv_cst 8 (by decide) ?_
  refine lv_isub hx hb dX12_feed_97 ?_
  refine lv_cst 16 (by decide) ?_
  refine lv_ishr hx hb dX12_feed_98 ?_
  refine lv_i2b (v := _) hx hb dX12_feed_99 rfl ?_
  refine lv_topi (fun z11 _ => ?_)
  refine va_bast hx hb hKX.1 hP hD hS 1 3 rfl rfl (vind (by decide)) dX12_feed_100 (fun H locs hP hD hS => ?_)
  have hP : va_P D vwCl [(mh, .inr (12, [.int 0, .int 100, .int 200, .int 5, .int 100, .int 0, .int 0, .int 0, .int 0, .int 0, .int 0, .ref (mq 0), .int 0, .ref (mq 1), .ref (mq 2), .ref (mq 3), .ref (mq 4), .ref (mq 5), .ref (mq 6), .ref (mq 7), .ref (mq 8), .ref (mq 9), .ref (mq 10), .int 0, .ref (mq 11), .ref (mq 12), .ref (mq 13), .int 0, .ref (mq 14), .ref (mq 15), .ref (mq 16), .ref (mq 17), .ref (mq 18), .int 5, .int 0, .int 0, .int 0, .int 0, .int 0, .int 0, .int (-1), .ref (mq 19), .ref (mq 20), .ref (mq 21), .ref (mq 22), .ref (mq 23), .ref (mq 24), .int 0, .int 0, .int 0, .ref (mq 25), .ref (mq 26), .ref (mq 27), .ref (mq 28), .ref (mq 29)])), ((mq 18), .inl (cy 3, 300, .inl (upd g10 (Int32.toNatClampNeg 5) (vp_nar .byte z11))))] H := hP
  have hD : va_D A [(mh, .inr (12, [.int 0, .int 100, .int 200, .int 5, .int 100, .int 0, .int 0, .int 0, .int 0, .int 0, .int 0, .ref (mq 0), .int 0, .ref (mq 1), .ref (mq 2), .ref (mq 3), .ref (mq 4), .ref (mq 5), .ref (mq 6), .ref (mq 7), .ref (mq 8), .ref (mq 9), .ref (mq 10), .int 0, .ref (mq 11), .ref (mq 12), .ref (mq 13), .int 0, .ref (mq 14), .ref (mq 15), .ref (mq 16), .ref (mq 17), .ref (mq 18), .int 5, .int 0, .int 0, .int 0, .int 0, .int 0, .int 0, .int (-1), .ref (mq 19), .ref (mq 20), .ref (mq 21), .ref (mq 22), .ref (mq 23), .ref (mq 24), .int 0, .int 0, .int 0, .ref (mq 25), .ref (mq 26), .ref (mq 27), .ref (mq 28), .ref (mq 29)])), ((mq 18), .inl (cy 3, 300, .inl (upd g10 (Int32.toNatClampNeg 5) (vp_nar .byte z11))))] := hD
  generalize (upd g10 (Int32.toNatClampNeg 5) (vp_nar .byte z11) : Nat → Int32) = g12 at hP hD
  refine lv_aload_n hx hb dX12_feed_101 rfl (lv_at hl 2 rfl) ?_
  refine lv_dup hx hb dX12_feed_102 rfl ?_
  refine va_get (D := D) (ci := 12) (v := .int 5) (C := RX12) (T := TX12) (N := 55) hx hb hts iw_X12_feed_X12 hown hKX.1 hP 0 rfl rfl 33 (by decide) (hts (.fieldLink RX12 196 "TrainFerryModel" "taped" "I") (by decide +kernel)) (fun _ h9 => h9) rfl dX12_feed_103 ?_
  refine lv_iconst (v := 1) hx hb dX12_feed_106 (by decide) ?_
  refine lv_iadd hx hb dX12_feed_107 ?_
  refine lv_cst 6 (by decide) ?_
  refine va_put (D := D) (ci := 12) (v := .int 6) (ty := .int) (C := RX12) (T := TX12) (N := 55) hx hb hts iw_X12_feed_X12 tyX12 tyX12_ok nmX12 hown hKX.1 hP hD hS 0 rfl rfl 33 (by decide) (hts (.fieldLink RX12 196 "TrainFerryModel" "taped" "I") (by decide +kernel)) (fun _ h9 => h9) rfl (by decide +kernel) rfl rfl (Nat.le_of_ble_eq_true rfl) dX12_feed_108 (fun H locs hP hD hS => ?_)
  have hP : va_P D vwCl [(mh, .inr (12, [.int 0, .int 100, .int 200, .int 5, .int 100, .int 0, .int 0, .int 0, .int 0, .int 0, .int 0, .ref (mq 0), .int 0, .ref (mq 1), .ref (mq 2), .ref (mq 3), .ref (mq 4), .ref (mq 5), .ref (mq 6), .ref (mq 7), .ref (mq 8), .ref (mq 9), .ref (mq 10), .int 0, .ref (mq 11), .ref (mq 12), .ref (mq 13), .int 0, .ref (mq 14), .ref (mq 15), .ref (mq 16), .ref (mq 17), .ref (mq 18), .int 6, .int 0, .int 0, .int 0, .int 0, .int 0, .int 0, .int (-1), .ref (mq 19), .ref (mq 20), .ref (mq 21), .ref (mq 22), .ref (mq 23), .ref (mq 24), .int 0, .int 0, .int 0, .ref (mq 25), .ref (mq 26), .ref (mq 27), .ref (mq 28), .ref (mq 29)])), ((mq 18), .inl (cy 3, 300, .inl g12))] H := hP
  have hD : va_D A [(mh, .inr (12, [.int 0, .int 100, .int 200, .int 5, .int 100, .int 0, .int 0, .int 0, .int 0, .int 0, .int 0, .ref (mq 0), .int 0, .ref (mq 1), .ref (mq 2), .ref (mq 3), .ref (mq 4), .ref (mq 5), .ref (mq 6), .ref (mq 7), .ref (mq 8), .ref (mq 9), .ref (mq 10), .int 0, .ref (mq 11), .ref (mq 12), .ref (mq 13), .int 0, .ref (mq 14), .ref (mq 15), .ref (mq 16), .ref (mq 17), .ref (mq 18), .int 6, .int 0, .int 0, .int 0, .int 0, .int 0, .int 0, .int (-1), .ref (mq 19), .ref (mq 20), .ref (mq 21), .ref (mq 22), .ref (mq 23), .ref (mq 24), .int 0, .int 0, .int 0, .ref (mq 25), .ref (mq 26), .ref (mq 27), .ref (mq 28), .ref (mq 29)])), ((mq 18), .inl (cy 3, 300, .inl g12))] := hD
  refine lv_iinc (v := 6) (lv' := [(6, .int 6), (7, .int xb), (0, .ref mh), (1, .int xa), (2, .int xb), (3, .int xc), (4, .int xd), (5, .int xe)]) hx hb dX12_feed_111 hl (k := 1) rfl (by decide) (by decide) rfl (fun ls hl => ?_)
  refine lv_goto (tgt := 23) hx hb dX12_feed_114 (by decide) ?_
  refine lv_iload hx hb dX12_feed_23 (lv_at hl 0 rfl) ?_
  refine lv_bipush (v := 20) hx hb dX12_feed_25 (by decide) ?_
  refine lv_icmp_ge (tgt := 117) hx hb dX12_feed_27 (by decide) (fun c9 => absurd c9 (by decide)) (fun _ => ?_)
  refine lv_iload hx hb dX12_feed_30 (lv_at hl 0 rfl) ?_
  refine lv_iconst (v := 4) hx hb dX12_feed_32 (by decide) ?_
  refine lv_icmp_ge (tgt := 40) hx hb dX12_feed_33 (by decide) (fun _ => ?_) (fun c9 => absurd (by decide) c9)
  refine lv_iload hx hb dX12_feed_40 (lv_at hl 0 rfl) ?_
  refine lv_bipush (v := 8) hx hb dX12_feed_42 (by decide) ?_
  refine lv_icmp_ge (tgt := 51) hx hb dX12_feed_44 (by decide) (fun c9 => absurd c9 (by decide)) (fun _ => ?_)
  refine lv_iload_n hx hb dX12_feed_47 rfl (lv_at hl 4 rfl) ?_
  refine lv_goto (tgt := 76) hx hb dX12_feed_48 (by decide) ?_
  refine lv_istore (lv' := [(7, .int xb), (6, .int 6), (0, .ref mh), (1, .int xa), (2, .int xb), (3, .int xc), (4, .int xd), (5, .int xe)]) hx hb dX12_feed_76 hl (by decide) rfl (fun ls hl => ?_)
  refine lv_aload_n hx hb dX12_feed_78 rfl (lv_at hl 2 rfl) ?_
  refine va_get (D := D) (ci := 12) (v := .ref (mq 18)) (C := RX12) (T := TX12) (N := 55) hx hb hts iw_X12_feed_X12 hown hKX.1 hP 0 rfl rfl 32 (by decide) (hts (.fieldLink RX12 82 "TrainFerryModel" "tape" "[B") (by decide +kernel)) (fun _ h9 => h9) rfl dX12_feed_79 ?_
  refine lv_aload_n hx hb dX12_feed_82 rfl (lv_at hl 2 rfl) ?_
  refine va_get (D := D) (ci := 12) (v := .int 6) (C := RX12) (T := TX12) (N := 55) hx hb hts iw_X12_feed_X12 hown hKX.1 hP 0 rfl rfl 33 (by decide) (hts (.fieldLink RX12 196 "TrainFerryModel" "taped" "I") (by decide +kernel)) (fun _ h9 => h9) rfl dX12_feed_83 ?_
  refine lv_iload hx hb dX12_feed_86 (lv_at hl 0 rfl) ?_
  refine lv_bipush (v := 24) hx hb dX12_feed_88 (by decide) ?_
  refine lv_bipush (v := 8) hx hb dX12_feed_90 (by decide) ?_
  refine lv_iload hx hb dX12_feed_92 (lv_at hl 1 rfl) ?_
  refine lv_iconst (v := 4) hx hb dX12_feed_94 (by decide) ?_
  refine lv_irem hx hb dX12_feed_95 (by decide) ?_
  refine lv_cst 2 (by decide) ?_
  refine lv_imul hx hb dX12_feed_96 ?_
  refine lv_cst 16 (by decide) ?_
  refine lv_isub hx hb dX12_feed_97 ?_
  refine lv_cst 8 (by decide) ?_
  refine lv_ishr hx hb dX12_feed_98 ?_
  refine lv_i2b (v := _) hx hb dX12_feed_99 rfl ?_
  refine lv_topi (fun z13 _ => ?_)
  refine va_bast hx hb hKX.1 hP hD hS 1 3 rfl rfl (vind (by decide)) dX12_feed_100 (fun H locs hP hD hS => ?_)
  have hP : va_P D vwCl [(mh, .inr (12, [.int 0, .int 100, .int 200, .int 5, .int 100, .int 0, .int 0, .int 0, .int 0, .int 0, .int 0, .ref (mq 0), .int 0, .ref (mq 1), .ref (mq 2), .ref (mq 3), .ref (mq 4), .ref (mq 5), .ref (mq 6), .ref (mq 7), .ref (mq 8), .ref (mq 9), .ref (mq 10), .int 0, .ref (mq 11), .ref (mq 12), .ref (mq 13), .int 0, .ref (mq 14), .ref (mq 15), .ref (mq 16), .ref (mq 17), .ref (mq 18), .int 6, .int 0, .int 0, .int 0, .int 0, .int 0, .int 0, .int (-1), .ref (mq 19), .ref (mq 20), .ref (mq 21), .ref (mq 22), .ref (mq 23), .ref (mq 24), .int 0, .int 0, .int 0, .ref (mq 25), .ref (mq 26), .ref (mq 27), .ref (mq 28), .ref (mq 29)])), ((mq 18), .inl (cy 3, 300, .inl (upd g12 (Int32.toNatClampNeg 6) (vp_nar .byte z13))))] H := hP
  have hD : va_D A [(mh, .inr (12, [.int 0, .int 100, .int 200, .int 5, .int 100, .int 0, .int 0, .int 0, .int 0, .int 0, .int 0, .ref (mq 0), .int 0, .ref (mq 1), .ref (mq 2), .ref (mq 3), .ref (mq 4), .ref (mq 5), .ref (mq 6), .ref (mq 7), .ref (mq 8), .ref (mq 9), .ref (mq 10), .int 0, .ref (mq 11), .ref (mq 12), .ref (mq 13), .int 0, .ref (mq 14), .ref (mq 15), .ref (mq 16), .ref (mq 17), .ref (mq 18), .int 6, .int 0, .int 0, .int 0, .int 0, .int 0, .int 0, .int (-1), .ref (mq 19), .ref (mq 20), .ref (mq 21), .ref (mq 22), .ref (mq 23), .ref (mq 24), .int 0, .int 0, .int 0, .ref (mq 25), .ref (mq 26), .ref (mq 27), .ref (mq 28), .ref (mq 29)])), ((mq 18), .inl (cy 3, 300, .inl (upd g12 (Int32.toNatClampNeg 6) (vp_nar .byte z13))))] := hD
  generalize (upd g12 (Int32.toNatClampNeg 6) (vp_nar .byte z13) : Nat → Int32) = g14 at hP hD
  refine lv_aload_n hx hb dX12_feed_101 rfl (lv_at hl 2 rfl) ?_
  refine lv_dup hx hb dX12_feed_102 rfl ?_
  refine va_get (D := D) (ci := 12) (v := .int 6) (C := RX12) (T := TX12) (N := 55) hx hb hts iw_X12_feed_X12 hown hKX.1 hP 0 rfl rfl 33 (by decide) (hts (.fieldLink RX12 196 "TrainFerryModel" "taped" "I") (by decide +kernel)) (fun _ h9 => h9) rfl dX12_feed_103 ?_
  refine lv_iconst (v := 1) hx hb dX12_feed_106 (by decide) ?_
  refine lv_iadd hx hb dX12_feed_107 ?_
  refine lv_cst 7 (by decide) ?_
  refine va_put (D := D) (ci := 12) (v := .int 7) (ty := .int) (C := RX12) (T := TX12) (N := 55) hx hb hts iw_X12_feed_X12 tyX12 tyX12_ok nmX12 hown hKX.1 hP hD hS 0 rfl rfl 33 (by decide) (hts (.fieldLink RX12 196 "TrainFerryModel" "taped" "I") (by decide +kernel)) (fun _ h9 => h9) rfl (by decide +kernel) rfl rfl (Nat.le_of_ble_eq_true rfl) dX12_feed_108 (fun H locs hP hD hS => ?_)
  have hP : va_P D vwCl [(mh, .inr (12, [.int 0, .int 100, .int 200, .int 5, .int 100, .int 0, .int 0, .int 0, .int 0, .int 0, .int 0, .ref (mq 0), .int 0, .ref (mq 1), .ref (mq 2), .ref (mq 3), .ref (mq 4), .ref (mq 5), .ref (mq 6), .ref (mq 7), .ref (mq 8), .ref (mq 9), .ref (mq 10), .int 0, .ref (mq 11), .ref (mq 12), .ref (mq 13), .int 0, .ref (mq 14), .ref (mq 15), .ref (mq 16), .ref (mq 17), .ref (mq 18), .int 7, .int 0, .int 0, .int 0, .int 0, .int 0, .int 0, .int (-1), .ref (mq 19), .ref (mq 20), .ref (mq 21), .ref (mq 22), .ref (mq 23), .ref (mq 24), .int 0, .int 0, .int 0, .ref (mq 25), .ref (mq 26), .ref (mq 27), .ref (mq 28), .ref (mq 29)])), ((mq 18), .inl (cy 3, 300, .inl g14))] H := hP
  have hD : va_D A [(mh, .inr (12, [.int 0, .int 100, .int 200, .int 5, .int 100, .int 0, .int 0, .int 0, .int 0, .int 0, .int 0, .ref (mq 0), .int 0, .ref (mq 1), .ref (mq 2), .ref (mq 3), .ref (mq 4), .ref (mq 5), .ref (mq 6), .ref (mq 7), .ref (mq 8), .ref (mq 9), .ref (mq 10), .int 0, .ref (mq 11), .ref (mq 12), .ref (mq 13), .int 0, .ref (mq 14), .ref (mq 15), .ref (mq 16), .ref (mq 17), .ref (mq 18), .int 7, .int 0, .int 0, .int 0, .int 0, .int 0, .int 0, .int (-1), .ref (mq 19), .ref (mq 20), .ref (mq 21), .ref (mq 22), .ref (mq 23), .ref (mq 24), .int 0, .int 0, .int 0, .ref (mq 25), .ref (mq 26), .ref (mq 27), .ref (mq 28), .ref (mq 29)])), ((mq 18), .inl (cy 3, 300, .inl g14))] := hD
  refine lv_iinc (v := 7) (lv' := [(6, .int 7), (7, .int xb), (0, .ref mh), (1, .int xa), (2, .int xb), (3, .int xc), (4, .int xd), (5, .int xe)]) hx hb dX12_feed_111 hl (k := 1) rfl (by decide) (by decide) rfl (fun ls hl => ?_)
  refine lv_goto (tgt := 23) hx hb dX12_feed_114 (by decide) ?_
  refine lv_iload hx hb dX12_feed_23 (lv_at hl 0 rfl) ?_
  refine lv_bipush (v := 20) hx hb dX12_feed_25 (by decide) ?_
  refine lv_icmp_ge (tgt := 117) hx hb dX12_feed_27 (by decide) (fun c9 => absurd c9 (by decide)) (fun _ => ?_)
  refine lv_iload hx hb dX12_feed_30 (lv_at hl 0 rfl) ?_
  refine lv_iconst (v := 4) hx hb dX12_feed_32 (by decide) ?_
  refine lv_icmp_ge (tgt := 40) hx hb dX12_feed_33 (by decide) (fun _ => ?_) (fun c9 => absurd (by decide) c9)
  refine lv_iload hx hb dX12_feed_40 (lv_at hl 0 rfl) ?_
  refine lv_bipush (v := 8) hx hb dX12_feed_42 (by decide) ?_
  refine lv_icmp_ge (tgt := 51) hx hb dX12_feed_44 (by decide) (fun c9 => absurd c9 (by decide)) (fun _ => ?_)
  refine lv_iload_n hx hb dX12_feed_47 rfl (lv_at hl 4 rfl) ?_
  refine lv_goto (tgt := 76) hx hb dX12_feed_48 (by decide) ?_
  refine lv_istore (lv' := [(7, .int xb), (6, .int 7), (0, .ref mh), (1, .int xa), (2, .int xb), (3, .int xc), (4, .int xd), (5, .int xe)]) hx hb dX12_feed_76 hl (by decide) rfl (fun ls hl => ?_)
  refine lv_aload_n hx hb dX12_feed_78 rfl (lv_at hl 2 rfl) ?_
  refine va_get (D := D) (ci := 12) (v := .ref (mq 18)) (C := RX12) (T := TX12) (N := 55) hx hb hts iw_X12_feed_X12 hown hKX.1 hP 0 rfl rfl 32 (by decide) (hts (.fieldLink RX12 82 "TrainFerryModel" "tape" "[B") (by decide +kernel)) (fun _ h9 => h9) rfl dX12_feed_79 ?_
  refine lv_aload_n hx hb dX12_feed_82 rfl (lv_at hl 2 rfl) ?_
  refine va_get (D := D) (ci := 12) (v := .int 7) (C := RX12) (T := TX12) (N := 55) hx hb hts iw_X12_feed_X12 hown hKX.1 hP 0 rfl rfl 33 (by decide) (hts (.fieldLink RX12 196 "TrainFerryModel" "taped" "I") (by decide +kernel)) (fun _ h9 => h9) rfl dX12_feed_83 ?_
  refine lv_iload hx hb dX12_feed_86 (lv_at hl 0 rfl) ?_
  refine lv_bipush (v := 24) hx hb dX12_feed_88 (by decide) ?_
  refine lv_bipush (v := 8) hx hb dX12_feed_90 (by decide) ?_
  refine lv_iload hx hb dX12_feed_92 (lv_at hl 1 rfl) ?_
  refine lv_iconst (v := 4) hx hb dX12_feed_94 (by decide) ?_
  refine lv_irem hx hb dX12_feed_95 (by decide) ?_
  refine lv_cst 3 (by decide) ?_
  refine lv_imul hx hb dX12_feed_96 ?_
  refine lv_cst 24 (by decide) ?_
  refine lv_isub hx hb dX12_feed_97 ?_
  refine lv_cst 0 (by decide) ?_
  refine lv_ishr hx hb dX12_feed_98 ?_
  refine lv_i2b (v := _) hx hb dX12_feed_99 rfl ?_
  refine lv_topi (fun z15 _ => ?_)
  refine va_bast hx hb hKX.1 hP hD hS 1 3 rfl rfl (vind (by decide)) dX12_feed_100 (fun H locs hP hD hS => ?_)
  have hP : va_P D vwCl [(mh, .inr (12, [.int 0, .int 100, .int 200, .int 5, .int 100, .int 0, .int 0, .int 0, .int 0, .int 0, .int 0, .ref (mq 0), .int 0, .ref (mq 1), .ref (mq 2), .ref (mq 3), .ref (mq 4), .ref (mq 5), .ref (mq 6), .ref (mq 7), .ref (mq 8), .ref (mq 9), .ref (mq 10), .int 0, .ref (mq 11), .ref (mq 12), .ref (mq 13), .int 0, .ref (mq 14), .ref (mq 15), .ref (mq 16), .ref (mq 17), .ref (mq 18), .int 7, .int 0, .int 0, .int 0, .int 0, .int 0, .int 0, .int (-1), .ref (mq 19), .ref (mq 20), .ref (mq 21), .ref (mq 22), .ref (mq 23), .ref (mq 24), .int 0, .int 0, .int 0, .ref (mq 25), .ref (mq 26), .ref (mq 27), .ref (mq 28), .ref (mq 29)])), ((mq 18), .inl (cy 3, 300, .inl (upd g14 (Int32.toNatClampNeg 7) (vp_nar .byte z15))))] H := hP
  have hD : va_D A [(mh, .inr (12, [.int 0, .int 100, .int 200, .int 5, .int 100, .int 0, .int 0, .int 0, .int 0, .int 0, .int 0, .ref (mq 0), .int 0, .ref (mq 1), .ref (mq 2), .ref (mq 3), .ref (mq 4), .ref (mq 5), .ref (mq 6), .ref (mq 7), .ref (mq 8), .ref (mq 9), .ref (mq 10), .int 0, .ref (mq 11), .ref (mq 12), .ref (mq 13), .int 0, .ref (mq 14), .ref (mq 15), .ref (mq 16), .ref (mq 17), .ref (mq 18), .int 7, .int 0, .int 0, .int 0, .int 0, .int 0, .int 0, .int (-1), .ref (mq 19), .ref (mq 20), .ref (mq 21), .ref (mq 22), .ref (mq 23), .ref (mq 24), .int 0, .int 0, .int 0, .ref (mq 25), .ref (mq 26), .ref (mq 27), .ref (mq 28), .ref (mq 29)])), ((mq 18), .inl (cy 3, 300, .inl (upd g14 (Int32.toNatClampNeg 7) (vp_nar .byte z15))))] := hD
  generalize (upd g14 (Int32.toNatClampNeg 7) (vp_nar .byte z15) : Nat → Int32) = g16 at hP hD
  refine lv_aload_n hx hb dX12_feed_101 rfl (lv_at hl 2 rfl) ?_
  refine lv_dup hx hb dX12_feed_102 rfl ?_
  refine va_get (D := D) (ci := 12) (v := .int 7) (C := RX12) (T := TX12) (N := 55) hx hb hts iw_X12_feed_X12 hown hKX.1 hP 0 rfl rfl 33 (by decide) (hts (.fieldLink RX12 196 "TrainFerryModel" "taped" "I") (by decide +kernel)) (fun _ h9 => h9) rfl dX12_feed_103 ?_
  refine lv_iconst (v := 1) hx hb dX12_feed_106 (by decide) ?_
  refine lv_iadd hx hb dX12_feed_107 ?_
  refine lv_cst 8 (by decide) ?_
  refine va_put (D := D) (ci := 12) (v := .int 8) (ty := .int) (C := RX12) (T := TX12) (N := 55) hx hb hts iw_X12_feed_X12 tyX12 tyX12_ok nmX12 hown hKX.1 hP hD hS 0 rfl rfl 33 (by decide) (hts (.fieldLink RX12 196 "TrainFerryModel" "taped" "I") (by decide +kernel)) (fun _ h9 => h9) rfl (by decide +kernel) rfl rfl (Nat.le_of_ble_eq_true rfl) dX12_feed_108 (fun H locs hP hD hS => ?_)
  have hP : va_P D vwCl [(mh, .inr (12, [.int 0, .int 100, .int 200, .int 5, .int 100, .int 0, .int 0, .int 0, .int 0, .int 0, .int 0, .ref (mq 0), .int 0, .ref (mq 1), .ref (mq 2), .ref (mq 3), .ref (mq 4), .ref (mq 5), .ref (mq 6), .ref (mq 7), .ref (mq 8), .ref (mq 9), .ref (mq 10), .int 0, .ref (mq 11), .ref (mq 12), .ref (mq 13), .int 0, .ref (mq 14), .ref (mq 15), .ref (mq 16), .ref (mq 17), .ref (mq 18), .int 8, .int 0, .int 0, .int 0, .int 0, .int 0, .int 0, .int (-1), .ref (mq 19), .ref (mq 20), .ref (mq 21), .ref (mq 22), .ref (mq 23), .ref (mq 24), .int 0, .int 0, .int 0, .ref (mq 25), .ref (mq 26), .ref (mq 27), .ref (mq 28), .ref (mq 29)])), ((mq 18), .inl (cy 3, 300, .inl g16))] H := hP
  have hD : va_D A [(mh, .inr (12, [.int 0, .int 100, .int 200, .int 5, .int 100, .int 0, .int 0, .int 0, .int 0, .int 0, .int 0, .ref (mq 0), .int 0, .ref (mq 1), .ref (mq 2), .ref (mq 3), .ref (mq 4), .ref (mq 5), .ref (mq 6), .ref (mq 7), .ref (mq 8), .ref (mq 9), .ref (mq 10), .int 0, .ref (mq 11), .ref (mq 12), .ref (mq 13), .int 0, .ref (mq 14), .ref (mq 15), .ref (mq 16), .ref (mq 17), .ref (mq 18), .int 8, .int 0, .int 0, .int 0, .int 0, .int 0, .int 0, .int (-1), .ref (mq 19), .ref (mq 20), .ref (mq 21), .ref (mq 22), .ref (mq 23), .ref (mq 24), .int 0, .int 0, .int 0, .ref (mq 25), .ref (mq 26), .ref (mq 27), .ref (mq 28), .ref (mq 29)])), ((mq 18), .inl (cy 3, 300, .inl g16))] := hD
  refine lv_iinc (v := 8) (lv' := [(6, .int 8), (7, .int xb), (0, .ref mh), (1, .int xa), (2, .int xb), (3, .int xc), (4, .int xd), (5, .int xe)]) hx hb dX12_feed_111 hl (k := 1) rfl (by decide) (by decide) rfl (fun ls hl => ?_)
  refine lv_goto (tgt := 23) hx hb dX12_feed_114 (by decide) ?_
  refine lv_iload hx hb dX12_feed_23 (lv_at hl 0 rfl) ?_
  refine lv_bipush (v := 20) hx hb dX12_feed_25 (by decide) ?_
  refine lv_icmp_ge (tgt := 117) hx hb dX12_feed_27 (by decide) (fun c9 => absurd c9 (by decide)) (fun _ => ?_)
  refine lv_iload hx hb dX12_feed_30 (lv_at hl 0 rfl) ?_
  refine lv_iconst (v := 4) hx hb dX12_feed_32 (by decide) ?_
  refine lv_icmp_ge (tgt := 40) hx hb dX12_feed_33 (by decide) (fun _ => ?_) (fun c9 => absurd (by decide) c9)
  refine lv_iload hx hb dX12_feed_40 (lv_at hl 0 rfl) ?_
  refine lv_bipush (v := 8) hx hb dX12_feed_42 (by decide) ?_
  refine lv_icmp_ge (tgt := 51) hx hb dX12_feed_44 (by decide) (fun _ => ?_) (fun c9 => absurd (by decide) c9)
  refine lv_iload hx hb dX12_feed_51 (lv_at hl 0 rfl) ?_
  refine lv_bipush (v := 12) hx hb dX12_feed_53 (by decide) ?_
  refine lv_icmp_ge (tgt := 62) hx hb dX12_feed_55 (by decide) (fun c9 => absurd c9 (by decide)) (fun _ => ?_)
  refine lv_iload_n hx hb dX12_feed_58 rfl (lv_at hl 5 rfl) ?_
  refine lv_goto (tgt := 76) hx hb dX12_feed_59 (by decide) ?_
  refine lv_istore (lv' := [(7, .int xc), (6, .int 8), (0, .ref mh), (1, .int xa), (2, .int xb), (3, .int xc), (4, .int xd), (5, .int xe)]) hx hb dX12_feed_76 hl (by decide) rfl (fun ls hl => ?_)
  refine lv_aload_n hx hb dX12_feed_78 rfl (lv_at hl 2 rfl) ?_
  refine va_get (D := D) (ci := 12) (v := .ref (mq 18)) (C := RX12) (T := TX12) (N := 55) hx hb hts iw_X12_feed_X12 hown hKX.1 hP 0 rfl rfl 32 (by decide) (hts (.fieldLink RX12 82 "TrainFerryModel" "tape" "[B") (by decide +kernel)) (fun _ h9 => h9) rfl dX12_feed_79 ?_
  refine lv_aload_n hx hb dX12_feed_82 rfl (lv_at hl 2 rfl) ?_
  refine va_get (D := D) (ci := 12) (v := .int 8) (C := RX12) (T := TX12) (N := 55) hx hb hts iw_X12_feed_X12 hown hKX.1 hP 0 rfl rfl 33 (by decide) (hts (.fieldLink RX12 196 "TrainFerryModel" "taped" "I") (by decide +kernel)) (fun _ h9 => h9) rfl dX12_feed_83 ?_
  refine lv_iload hx hb dX12_feed_86 (lv_at hl 0 rfl) ?_
  refine lv_bipush (v := 24) hx hb dX12_feed_88 (by decide) ?_
  refine lv_bipush (v := 8) hx hb dX12_feed_90 (by decide) ?_
  refine lv_iload hx hb dX12_feed_92 (lv_at hl 1 rfl) ?_
  refine lv_iconst (v := 4) hx hb dX12_feed_94 (by decide) ?_
  refine lv_irem hx hb dX12_feed_95 (by decide) ?_
  refine lv_cst 0 (by decide) ?_
  refine lv_imul hx hb dX12_feed_96 ?_
  refine lv_cst 0 (by decide) ?_
  refine lv_isub hx hb dX12_feed_97 ?_
  refine lv_cst 24 (by decide) ?_
  refine lv_ishr hx hb dX12_feed_98 ?_
  refine lv_i2b (v := _) hx hb dX12_feed_99 rfl ?_
  refine lv_topi (fun z17 _ => ?_)
  refine va_bast hx hb hKX.1 hP hD hS 1 3 rfl rfl (vind (by decide)) dX12_feed_100 (fun H locs hP hD hS => ?_)
  have hP : va_P D vwCl [(mh, .inr (12, [.int 0, .int 100, .int 200, .int 5, .int 100, .int 0, .int 0, .int 0, .int 0, .int 0, .int 0, .ref (mq 0), .int 0, .ref (mq 1), .ref (mq 2), .ref (mq 3), .ref (mq 4), .ref (mq 5), .ref (mq 6), .ref (mq 7), .ref (mq 8), .ref (mq 9), .ref (mq 10), .int 0, .ref (mq 11), .ref (mq 12), .ref (mq 13), .int 0, .ref (mq 14), .ref (mq 15), .ref (mq 16), .ref (mq 17), .ref (mq 18), .int 8, .int 0, .int 0, .int 0, .int 0, .int 0, .int 0, .int (-1), .ref (mq 19), .ref (mq 20), .ref (mq 21), .ref (mq 22), .ref (mq 23), .ref (mq 24), .int 0, .int 0, .int 0, .ref (mq 25), .ref (mq 26), .ref (mq 27), .ref (mq 28), .ref (mq 29)])), ((mq 18), .inl (cy 3, 300, .inl (upd g16 (Int32.toNatClampNeg 8) (vp_nar .byte z17))))] H := hP
  have hD : va_D A [(mh, .inr (12, [.int 0, .int 100, .int 200, .int 5, .int 100, .int 0, .int 0, .int 0, .int 0, .int 0, .int 0, .ref (mq 0), .int 0, .ref (mq 1), .ref (mq 2), .ref (mq 3), .ref (mq 4), .ref (mq 5), .ref (mq 6), .ref (mq 7), .ref (mq 8), .ref (mq 9), .ref (mq 10), .int 0, .ref (mq 11), .ref (mq 12), .ref (mq 13), .int 0, .ref (mq 14), .ref (mq 15), .ref (mq 16), .ref (mq 17), .ref (mq 18), .int 8, .int 0, .int 0, .int 0, .int 0, .int 0, .int 0, .int (-1), .ref (mq 19), .ref (mq 20), .ref (mq 21), .ref (mq 22), .ref (mq 23), .ref (mq 24), .int 0, .int 0, .int 0, .ref (mq 25), .ref (mq 26), .ref (mq 27), .ref (mq 28), .ref (mq 29)])), ((mq 18), .inl (cy 3, 300, .inl (upd g16 (Int32.toNatClampNeg 8) (vp_nar .byte z17))))] := hD
  generalize (upd g16 (Int32.toNatClampNeg 8) (vp_nar .byte z17) : Nat → Int32) = g18 at hP hD
  refine lv_aload_n hx hb dX12_feed_101 rfl (lv_at hl 2 rfl) ?_
  refine lv_dup hx hb dX12_feed_102 rfl ?_
  refine va_get (D := D) (ci := 12) (v := .int 8) (C := RX12) (T := TX12) (N := 55) hx hb hts iw_X12_feed_X12 hown hKX.1 hP 0 rfl rfl 33 (by decide) (hts (.fieldLink RX12 196 "TrainFerryModel" "taped" "I") (by decide +kernel)) (fun _ h9 => h9) rfl dX12_feed_103 ?_
  refine lv_iconst (v := 1) hx hb dX12_feed_106 (by decide) ?_
  refine lv_iadd hx hb dX12_feed_107 ?_
  refine lv_cst 9 (by decide) ?_
  refine va_put (D := D) (ci := 12) (v := .int 9) (ty := .int) (C := RX12) (T := TX12) (N := 55) hx hb hts iw_X12_feed_X12 tyX12 tyX12_ok nmX12 hown hKX.1 hP hD hS 0 rfl rfl 33 (by decide) (hts (.fieldLink RX12 196 "TrainFerryModel" "taped" "I") (by decide +kernel)) (fun _ h9 => h9) rfl (by decide +kernel) rfl rfl (Nat.le_of_ble_eq_true rfl) dX12_feed_108 (fun H locs hP hD hS => ?_)
  have hP : va_P D vwCl [(mh, .inr (12, [.int 0, .int 100, .int 200, .int 5, .int 100, .int 0, .int 0, .int 0, .int 0, .int 0, .int 0, .ref (mq 0), .int 0, .ref (mq 1), .ref (mq 2), .ref (mq 3), .ref (mq 4), .ref (mq 5), .ref (mq 6), .ref (mq 7), .ref (mq 8), .ref (mq 9), .ref (mq 10), .int 0, .ref (mq 11), .ref (mq 12), .ref (mq 13), .int 0, .ref (mq 14), .ref (mq 15), .ref (mq 16), .ref (mq 17), .ref (mq 18), .int 9, .int 0, .int 0, .int 0, .int 0, .int 0, .int 0, .int (-1), .ref (mq 19), .ref (mq 20), .ref (mq 21), .ref (mq 22), .ref (mq 23), .ref (mq 24), .int 0, .int 0, .int 0, .ref (mq 25), .ref (mq 26), .ref (mq 27), .ref (mq 28), .ref (mq 29)])), ((mq 18), .inl (cy 3, 300, .inl g18))] H := hP
  have hD : va_D A [(mh, .inr (12, [.int 0, .int 100, .int 200, .int 5, .int 100, .int 0, .int 0, .int 0, .int 0, .int 0, .int 0, .ref (mq 0), .int 0, .ref (mq 1), .ref (mq 2), .ref (mq 3), .ref (mq 4), .ref (mq 5), .ref (mq 6), .ref (mq 7), .ref (mq 8), .ref (mq 9), .ref (mq 10), .int 0, .ref (mq 11), .ref (mq 12), .ref (mq 13), .int 0, .ref (mq 14), .ref (mq 15), .ref (mq 16), .ref (mq 17), .ref (mq 18), .int 9, .int 0, .int 0, .int 0, .int 0, .int 0, .int 0, .int (-1), .ref (mq 19), .ref (mq 20), .ref (mq 21), .ref (mq 22), .ref (mq 23), .ref (mq 24), .int 0, .int 0, .int 0, .ref (mq 25), .ref (mq 26), .ref (mq 27), .ref (mq 28), .ref (mq 29)])), ((mq 18), .inl (cy 3, 300, .inl g18))] := hD
  refine lv_iinc (v := 9) (lv' := [(6, .int 9), (7, .int xc), (0, .ref mh), (1, .int xa), (2, .int xb), (3, .int xc), (4, .int xd), (5, .int xe)]) hx hb dX12_feed_111 hl (k := 1) rfl (by decide) (by decide) rfl (fun ls hl => ?_)
  refine lv_goto (tgt := 23) hx hb dX12_feed_114 (by decide) ?_
  refine lv_iload hx hb dX12_feed_23 (lv_at hl 0 rfl) ?_
  refine lv_bipush (v := 20) hx hb dX12_feed_25 (by decide) ?_
  refine lv_icmp_ge (tgt := 117) hx hb dX12_feed_27 (by decide) (fun c9 => absurd c9 (by decide)) (fun _ => ?_)
  refine lv_iload hx hb dX12_feed_30 (lv_at hl 0 rfl) ?_
  refine lv_iconst (v := 4) hx hb dX12_feed_32 (by decide) ?_
  refine lv_icmp_ge (tgt := 40) hx hb dX12_feed_33 (by decide) (fun _ => ?_) (fun c9 => absurd (by decide) c9)
  refine lv_iload hx hb dX12_feed_40 (lv_at hl 0 rfl) ?_
  refine lv_bipush (v := 8) hx hb dX12_feed_42 (by decide) ?_
  refine lv_icmp_ge (tgt := 51) hx hb dX12_feed_44 (by decide) (fun _ => ?_) (fun c9 => absurd (by decide) c9)
  refine lv_iload hx hb dX12_feed_51 (lv_at hl 0 rfl) ?_
  refine lv_bipush (v := 12) hx hb dX12_feed_53 (by decide) ?_
  refine lv_icmp_ge (tgt := 62) hx hb dX12_feed_55 (by decide) (fun c9 => absurd c9 (by decide)) (fun _ => ?_)
  refine lv_iload_n hx hb dX12_feed_58 rfl (lv_at hl 5 rfl) ?_
  refine lv_goto (tgt := 76) hx hb dX12_feed_59 (by decide) ?_
  refine lv_istore (lv' := [(7, .int xc), (6, .int 9), (0, .ref mh), (1, .int xa), (2, .int xb), (3, .int xc), (4, .int xd), (5, .int xe)]) hx hb dX12_feed_76 hl (by decide) rfl (fun ls hl => ?_)
  refine lv_aload_n hx hb dX12_feed_78 rfl (lv_at hl 2 rfl) ?_
  refine va_get (D := D) (ci := 12) (v := .ref (mq 18)) (C := RX12) (T := TX12) (N := 55) hx hb hts iw_X12_feed_X12 hown hKX.1 hP 0 rfl rfl 32 (by decide) (hts (.fieldLink RX12 82 "TrainFerryModel" "tape" "[B") (by decide +kernel)) (fun _ h9 => h9) rfl dX12_feed_79 ?_
  refine lv_aload_n hx hb dX12_feed_82 rfl (lv_at hl 2 rfl) ?_
  refine va_get (D := D) (ci := 12) (v := .int 9) (C := RX12) (T := TX12) (N := 55) hx hb hts iw_X12_feed_X12 hown hKX.1 hP 0 rfl rfl 33 (by decide) (hts (.fieldLink RX12 196 "TrainFerryModel" "taped" "I") (by decide +kernel)) (fun _ h9 => h9) rfl dX12_feed_83 ?_
  refine lv_iload hx hb dX12_feed_86 (lv_at hl 0 rfl) ?_
  refine lv_bipush (v := 24) hx hb dX12_feed_88 (by decide) ?_
  refine lv_bipush (v := 8) hx hb dX12_feed_90 (by decide) ?_
  refine lv_iload hx hb dX12_feed_92 (lv_at hl 1 rfl) ?_
  refine lv_iconst (v := 4) hx hb dX12_feed_94 (by decide) ?_
  refine lv_irem hx hb dX12_feed_95 (by decide) ?_
  refine lv_cst 1 (by decide) ?_
  refine lv_imul hx hb dX12_feed_96 ?_
  refine lv_cst 8 (by decide) ?_
  refine lv_isub hx hb dX12_feed_97 ?_
  refine lv_cst 16 (by decide) ?_
  refine lv_ishr hx hb dX12_feed_98 ?_
  refine lv_i2b (v := _) hx hb dX12_feed_99 rfl ?_
  refine lv_topi (fun z19 _ => ?_)
  refine va_bast hx hb hKX.1 hP hD hS 1 3 rfl rfl (vind (by decide)) dX12_feed_100 (fun H locs hP hD hS => ?_)
  have hP : va_P D vwCl [(mh, .inr (12, [.int 0, .int 100, .int 200, .int 5, .int 100, .int 0, .int 0, .int 0, .int 0, .int 0, .int 0, .ref (mq 0), .int 0, .ref (mq 1), .ref (mq 2), .ref (mq 3), .ref (mq 4), .ref (mq 5), .ref (mq 6), .ref (mq 7), .ref (mq 8), .ref (mq 9), .ref (mq 10), .int 0, .ref (mq 11), .ref (mq 12), .ref (mq 13), .int 0, .ref (mq 14), .ref (mq 15), .ref (mq 16), .ref (mq 17), .ref (mq 18), .int 9, .int 0, .int 0, .int 0, .int 0, .int 0, .int 0, .int (-1), .ref (mq 19), .ref (mq 20), .ref (mq 21), .ref (mq 22), .ref (mq 23), .ref (mq 24), .int 0, .int 0, .int 0, .ref (mq 25), .ref (mq 26), .ref (mq 27), .ref (mq 28), .ref (mq 29)])), ((mq 18), .inl (cy 3, 300, .inl (upd g18 (Int32.toNatClampNeg 9) (vp_nar .byte z19))))] H := hP
  have hD : va_D A [(mh, .inr (12, [.int 0, .int 100, .int 200, .int 5, .int 100, .int 0, .int 0, .int 0, .int 0, .int 0, .int 0, .ref (mq 0), .int 0, .ref (mq 1), .ref (mq 2), .ref (mq 3), .ref (mq 4), .ref (mq 5), .ref (mq 6), .ref (mq 7), .ref (mq 8), .ref (mq 9), .ref (mq 10), .int 0, .ref (mq 11), .ref (mq 12), .ref (mq 13), .int 0, .ref (mq 14), .ref (mq 15), .ref (mq 16), .ref (mq 17), .ref (mq 18), .int 9, .int 0, .int 0, .int 0, .int 0, .int 0, .int 0, .int (-1), .ref (mq 19), .ref (mq 20), .ref (mq 21), .ref (mq 22), .ref (mq 23), .ref (mq 24), .int 0, .int 0, .int 0, .ref (mq 25), .ref (mq 26), .ref (mq 27), .ref (mq 28), .ref (mq 29)])), ((mq 18), .inl (cy 3, 300, .inl (upd g18 (Int32.toNatClampNeg 9) (vp_nar .byte z19))))] := hD
  generalize (upd g18 (Int32.toNatClampNeg 9) (vp_nar .byte z19) : Nat → Int32) = g20 at hP hD
  refine lv_aload_n hx hb dX12_feed_101 rfl (lv_at hl 2 rfl) ?_
  refine lv_dup hx hb dX12_feed_102 rfl ?_
  refine va_get (D := D) (ci := 12) (v := .int 9) (C := RX12) (T := TX12) (N := 55) hx hb hts iw_X12_feed_X12 hown hKX.1 hP 0 rfl rfl 33 (by decide) (hts (.fieldLink RX12 196 "TrainFerryModel" "taped" "I") (by decide +kernel)) (fun _ h9 => h9) rfl dX12_feed_103 ?_
  refine lv_iconst (v := 1) hx hb dX12_feed_106 (by decide) ?_
  refine lv_iadd hx hb dX12_feed_107 ?_
  refine lv_cst 10 (by decide) ?_
  refine va_put (D := D) (ci := 12) (v := .int 10) (ty := .int) (C := RX12) (T := TX12) (N := 55) hx hb hts iw_X12_feed_X12 tyX12 tyX12_ok nmX12 hown hKX.1 hP hD hS 0 rfl rfl 33 (by decide) (hts (.fieldLink RX12 196 "TrainFerryModel" "taped" "I") (by decide +kernel)) (fun _ h9 => h9) rfl (by decide +kernel) rfl rfl (Nat.le_of_ble_eq_true rfl) dX12_feed_108 (fun H locs hP hD hS => ?_)
  have hP : va_P D vwCl [(mh, .inr (12, [.int 0, .int 100, .int 200, .int 5, .int 100, .int 0, .int 0, .int 0, .int 0, .int 0, .int 0, .ref (mq 0), .int 0, .ref (mq 1), .ref (mq 2), .ref (mq 3), .ref (mq 4), .ref (mq 5), .ref (mq 6), .ref (mq 7), .ref (mq 8), .ref (mq 9), .ref (mq 10), .int 0, .ref (mq 11), .ref (mq 12), .ref (mq 13), .int 0, .ref (mq 14), .ref (mq 15), .ref (mq 16), .ref (mq 17), .ref (mq 18), .int 10, .int 0, .int 0, .int 0, .int 0, .int 0, .int 0, .int (-1), .ref (mq 19), .ref (mq 20), .ref (mq 21), .ref (mq 22), .ref (mq 23), .ref (mq 24), .int 0, .int 0, .int 0, .ref (mq 25), .ref (mq 26), .ref (mq 27), .ref (mq 28), .ref (mq 29)])), ((mq 18), .inl (cy 3, 300, .inl g20))] H := hP
  have hD : va_D A [(mh, .inr (12, [.int 0, .int 100, .int 200, .int 5, .int 100, .int 0, .int 0, .int 0, .int 0, .int 0, .int 0, .ref (mq 0), .int 0, .ref (mq 1), .ref (mq 2), .ref (mq 3), .ref (mq 4), .ref (mq 5), .ref (mq 6), .ref (mq 7), .ref (mq 8), .ref (mq 9), .ref (mq 10), .int 0, .ref (mq 11), .ref (mq 12), .ref (mq 13), .int 0, .ref (mq 14), .ref (mq 15), .ref (mq 16), .ref (mq 17), .ref (mq 18), .int 10, .int 0, .int 0, .int 0, .int 0, .int 0, .int 0, .int (-1), .ref (mq 19), .ref (mq 20), .ref (mq 21), .ref (mq 22), .ref (mq 23), .ref (mq 24), .int 0, .int 0, .int 0, .ref (mq 25), .ref (mq 26), .ref (mq 27), .ref (mq 28), .ref (mq 29)])), ((mq 18), .inl (cy 3, 300, .inl g20))] := hD
  refine lv_iinc (v := 10) (lv' := [(6, .int 10), (7, .int xc), (0, .ref mh), (1, .int xa), (2, .int xb), (3, .int xc), (4, .int xd), (5, .int xe)]) hx hb dX12_feed_111 hl (k := 1) rfl (by decide) (by decide) rfl (fun ls hl => ?_)
  refine lv_goto (tgt := 23) hx hb dX12_feed_114 (by decide) ?_
  refine lv_iload hx hb dX12_feed_23 (lv_at hl 0 rfl) ?_
  refine lv_bipush (v := 20) hx hb dX12_feed_25 (by decide) ?_
  refine lv_icmp_ge (tgt := 117) hx hb dX12_feed_27 (by decide) (fun c9 => absurd c9 (by decide)) (fun _ => ?_)
  refine lv_iload hx hb dX12_feed_30 (lv_at hl 0 rfl) ?_
  refine lv_iconst (v := 4) hx hb dX12_feed_32 (by decide) ?_
  refine lv_icmp_ge (tgt := 40) hx hb dX12_feed_33 (by decide) (fun _ => ?_) (fun c9 => absurd (by decide) c9)
  refine lv_iload hx hb dX12_feed_40 (lv_at hl 0 rfl) ?_
  refine lv_bipush (v := 8) hx hb dX12_feed_42 (by decide) ?_
  refine lv_icmp_ge (tgt := 51) hx hb dX12_feed_44 (by decide) (fun _ => ?_) (fun c9 => absurd (by decide) c9)
  refine lv_iload hx hb dX12_feed_51 (lv_at hl 0 rfl) ?_
  refine lv_bipush (v := 12) hx hb dX12_feed_53 (by decide) ?_
  refine lv_icmp_ge (tgt := 62) hx hb dX12_feed_55 (by decide) (fun c9 => absurd c9 (by decide)) (fun _ => ?_)
  refine lv_iload_n hx hb dX12_feed_58 rfl (lv_at hl 5 rfl) ?_
  refine lv_goto (tgt := 76) hx hb dX12_feed_59 (by decide) ?_
  refine lv_istore (lv' := [(7, .int xc), (6, .int 10), (0, .ref mh), (1, .int xa), (2, .int xb), (3, .int xc), (4, .int xd), (5, .int xe)]) hx hb dX12_feed_76 hl (by decide) rfl (fun ls hl => ?_)
  refine lv_aload_n hx hb dX12_feed_78 rfl (lv_at hl 2 rfl) ?_
  refine va_get (D := D) (ci := 12) (v := .ref (mq 18)) (C := RX12) (T := TX12) (N := 55) hx hb hts iw_X12_feed_X12 hown hKX.1 hP 0 rfl rfl 32 (by decide) (hts (.fieldLink RX12 82 "TrainFerryModel" "tape" "[B") (by decide +kernel)) (fun _ h9 => h9) rfl dX12_feed_79 ?_
  refine lv_aload_n hx hb dX12_feed_82 rfl (lv_at hl 2 rfl) ?_
  refine va_get (D := D) (ci := 12) (v := .int 10) (C := RX12) (T := TX12) (N := 55) hx hb hts iw_X12_feed_X12 hown hKX.1 hP 0 rfl rfl 33 (by decide) (hts (.fieldLink RX12 196 "TrainFerryModel" "taped" "I") (by decide +kernel)) (fun _ h9 => h9) rfl dX12_feed_83 ?_
  refine lv_iload hx hb dX12_feed_86 (lv_at hl 0 rfl) ?_
  refine lv_bipush (v := 24) hx hb dX12_feed_88 (by decide) ?_
  refine lv_bipush (v := 8) hx hb dX12_feed_90 (by decide) ?_
  refine lv_iload hx hb dX12_feed_92 (lv_at hl 1 rfl) ?_
  refine lv_iconst (v := 4) hx hb dX12_feed_94 (by decide) ?_
  refine lv_irem hx hb dX12_feed_95 (by decide) ?_
  refine lv_cst 2 (by decide) ?_
  refine lv_imul hx hb dX12_feed_96 ?_
  refine lv_cst 16 (by decide) ?_
  refine lv_isub hx hb dX12_feed_97 ?_
  refine lv_cst 8 (by decide) ?_
  refine lv_ishr hx hb dX12_feed_98 ?_
  refine lv_i2b (v := _) hx hb dX12_feed_99 rfl ?_
  refine lv_topi (fun z21 _ => ?_)
  refine va_bast hx hb hKX.1 hP hD hS 1 3 rfl rfl (vind (by decide)) dX12_feed_100 (fun H locs hP hD hS => ?_)
  have hP : va_P D vwCl [(mh, .inr (12, [.int 0, .int 100, .int 200, .int 5, .int 100, .int 0, .int 0, .int 0, .int 0, .int 0, .int 0, .ref (mq 0), .int 0, .ref (mq 1), .ref (mq 2), .ref (mq 3), .ref (mq 4), .ref (mq 5), .ref (mq 6), .ref (mq 7), .ref (mq 8), .ref (mq 9), .ref (mq 10), .int 0, .ref (mq 11), .ref (mq 12), .ref (mq 13), .int 0, .ref (mq 14), .ref (mq 15), .ref (mq 16), .ref (mq 17), .ref (mq 18), .int 10, .int 0, .int 0, .int 0, .int 0, .int 0, .int 0, .int (-1), .ref (mq 19), .ref (mq 20), .ref (mq 21), .ref (mq 22), .ref (mq 23), .ref (mq 24), .int 0, .int 0, .int 0, .ref (mq 25), .ref (mq 26), .ref (mq 27), .ref (mq 28), .ref (mq 29)])), ((mq 18), .inl (cy 3, 300, .inl (upd g20 (Int32.toNatClampNeg 10) (vp_nar .byte z21))))] H := hP
  have hD : va_D A [(mh, .inr (12, [.int 0, .int 100, .int 200, .int 5, .int 100, .int 0, .int 0, .int 0, .int 0, .int 0, .int 0, .ref (mq 0), .int 0, .ref (mq 1), .ref (mq 2), .ref (mq 3), .ref (mq 4), .ref (mq 5), .ref (mq 6), .ref (mq 7), .ref (mq 8), .ref (mq 9), .ref (mq 10), .int 0, .ref (mq 11), .ref (mq 12), .ref (mq 13), .int 0, .ref (mq 14), .ref (mq 15), .ref (mq 16), .ref (mq 17), .ref (mq 18), .int 10, .int 0, .int 0, .int 0, .int 0, .int 0, .int 0, .int (-1), .ref (mq 19), .ref (mq 20), .ref (mq 21), .ref (mq 22), .ref (mq 23), .ref (mq 24), .int 0, .int 0, .int 0, .ref (mq 25), .ref (mq 26), .ref (mq 27), .ref (mq 28), .ref (mq 29)])), ((mq 18), .inl (cy 3, 300, .inl (upd g20 (Int32.toNatClampNeg 10) (vp_nar .byte z21))))] := hD
  generalize (upd g20 (Int32.toNatClampNeg 10) (vp_nar .byte z21) : Nat → Int32) = g22 at hP hD
  refine lv_aload_n hx hb dX12_feed_101 rfl (lv_at hl 2 rfl) ?_
  refine lv_dup hx hb dX12_feed_102 rfl ?_
  refine va_get (D := D) (ci := 12) (v := .int 10) (C := RX12) (T := TX12) (N := 55) hx hb hts iw_X12_feed_X12 hown hKX.1 hP 0 rfl rfl 33 (by decide) (hts (.fieldLink RX12 196 "TrainFerryModel" "taped" "I") (by decide +kernel)) (fun _ h9 => h9) rfl dX12_feed_103 ?_
  refine lv_iconst (v := 1) hx hb dX12_feed_106 (by decide) ?_
  refine lv_iadd hx hb dX12_feed_107 ?_
  refine lv_cst 11 (by decide) ?_
  refine va_put (D := D) (ci := 12) (v := .int 11) (ty := .int) (C := RX12) (T := TX12) (N := 55) hx hb hts iw_X12_feed_X12 tyX12 tyX12_ok nmX12 hown hKX.1 hP hD hS 0 rfl rfl 33 (by decide) (hts (.fieldLink RX12 196 "TrainFerryModel" "taped" "I") (by decide +kernel)) (fun _ h9 => h9) rfl (by decide +kernel) rfl rfl (Nat.le_of_ble_eq_true rfl) dX12_feed_108 (fun H locs hP hD hS => ?_)
  have hP : va_P D vwCl [(mh, .inr (12, [.int 0, .int 100, .int 200, .int 5, .int 100, .int 0, .int 0, .int 0, .int 0, .int 0, .int 0, .ref (mq 0), .int 0, .ref (mq 1), .ref (mq 2), .ref (mq 3), .ref (mq 4), .ref (mq 5), .ref (mq 6), .ref (mq 7), .ref (mq 8), .ref (mq 9), .ref (mq 10), .int 0, .ref (mq 11), .ref (mq 12), .ref (mq 13), .int 0, .ref (mq 14), .ref (mq 15), .ref (mq 16), .ref (mq 17), .ref (mq 18), .int 11, .int 0, .int 0, .int 0, .int 0, .int 0, .int 0, .int (-1), .ref (mq 19), .ref (mq 20), .ref (mq 21), .ref (mq 22), .ref (mq 23), .ref (mq 24), .int 0, .int 0, .int 0, .ref (mq 25), .ref (mq 26), .ref (mq 27), .ref (mq 28), .ref (mq 29)])), ((mq 18), .inl (cy 3, 300, .inl g22))] H := hP
  have hD : va_D A [(mh, .inr (12, [.int 0, .int 100, .int 200, .int 5, .int 100, .int 0, .int 0, .int 0, .int 0, .int 0, .int 0, .ref (mq 0), .int 0, .ref (mq 1), .ref (mq 2), .ref (mq 3), .ref (mq 4), .ref (mq 5), .ref (mq 6), .ref (mq 7), .ref (mq 8), .ref (mq 9), .ref (mq 10), .int 0, .ref (mq 11), .ref (mq 12), .ref (mq 13), .int 0, .ref (mq 14), .ref (mq 15), .ref (mq 16), .ref (mq 17), .ref (mq 18), .int 11, .int 0, .int 0, .int 0, .int 0, .int 0, .int 0, .int (-1), .ref (mq 19), .ref (mq 20), .ref (mq 21), .ref (mq 22), .ref (mq 23), .ref (mq 24), .int 0, .int 0, .int 0, .ref (mq 25), .ref (mq 26), .ref (mq 27), .ref (mq 28), .ref (mq 29)])), ((mq 18), .inl (cy 3, 300, .inl g22))] := hD
  refine lv_iinc (v := 11) (lv' := [(6, .int 11), (7, .int xc), (0, .ref mh), (1, .int xa), (2, .int xb), (3, .int xc), (4, .int xd), (5, .int xe)]) hx hb dX12_feed_111 hl (k := 1) rfl (by decide) (by decide) rfl (fun ls hl => ?_)
  refine lv_goto (tgt := 23) hx hb dX12_feed_114 (by decide) ?_
  refine lv_iload hx hb dX12_feed_23 (lv_at hl 0 rfl) ?_
  refine lv_bipush (v := 20) hx hb dX12_feed_25 (by decide) ?_
  refine lv_icmp_ge (tgt := 117) hx hb dX12_feed_27 (by decide) (fun c9 => absurd c9 (by decide)) (fun _ => ?_)
  refine lv_iload hx hb dX12_feed_30 (lv_at hl 0 rfl) ?_
  refine lv_iconst (v := 4) hx hb dX12_feed_32 (by decide) ?_
  refine lv_icmp_ge (tgt := 40) hx hb dX12_feed_33 (by decide) (fun _ => ?_) (fun c9 => absurd (by decide) c9)
  refine lv_iload hx hb dX12_feed_40 (lv_at hl 0 rfl) ?_
  refine lv_bipush (v := 8) hx hb dX12_feed_42 (by decide) ?_
  refine lv_icmp_ge (tgt := 51) hx hb dX12_feed_44 (by decide) (fun _ => ?_) (fun c9 => absurd (by decide) c9)
  refine lv_iload hx hb dX12_feed_51 (lv_at hl 0 rfl) ?_
  refine lv_bipush (v := 12) hx hb dX12_feed_53 (by decide) ?_
  refine lv_icmp_ge (tgt := 62) hx hb dX12_feed_55 (by decide) (fun c9 => absurd c9 (by decide)) (fun _ => ?_)
  refine lv_iload_n hx hb dX12_feed_58 rfl (lv_at hl 5 rfl) ?_
  refine lv_goto (tgt := 76) hx hb dX12_feed_59 (by decide) ?_
  refine lv_istore (lv' := [(7, .int xc), (6, .int 11), (0, .ref mh), (1, .int xa), (2, .int xb), (3, .int xc), (4, .int xd), (5, .int xe)]) hx hb dX12_feed_76 hl (by decide) rfl (fun ls hl => ?_)
  refine lv_aload_n hx hb dX12_feed_78 rfl (lv_at hl 2 rfl) ?_
  refine va_get (D := D) (ci := 12) (v := .ref (mq 18)) (C := RX12) (T := TX12) (N := 55) hx hb hts iw_X12_feed_X12 hown hKX.1 hP 0 rfl rfl 32 (by decide) (hts (.fieldLink RX12 82 "TrainFerryModel" "tape" "[B") (by decide +kernel)) (fun _ h9 => h9) rfl dX12_feed_79 ?_
  refine lv_aload_n hx hb dX12_feed_82 rfl (lv_at hl 2 rfl) ?_
  refine va_get (D := D) (ci := 12) (v := .int 11) (C := RX12) (T := TX12) (N := 55) hx hb hts iw_X12_feed_X12 hown hKX.1 hP 0 rfl rfl 33 (by decide) (hts (.fieldLink RX12 196 "TrainFerryModel" "taped" "I") (by decide +kernel)) (fun _ h9 => h9) rfl dX12_feed_83 ?_
  refine lv_iload hx hb dX12_feed_86 (lv_at hl 0 rfl) ?_
  refine lv_bipush (v := 24) hx hb dX12_feed_88 (by decide) ?_
  refine lv_bipush (v := 8) hx hb dX12_feed_90 (by decide) ?_
  refine lv_iload hx hb dX12_feed_92 (lv_at hl 1 rfl) ?_
  refine lv_iconst (v := 4) hx hb dX12_feed_94 (by decide) ?_
  refine lv_irem hx hb dX12_feed_95 (by decide) ?_
  refine lv_cst 3 (by decide) ?_
  refine lv_imul hx hb dX12_feed_96 ?_
  refine lv_cst 24 (by decide) ?_
  refine lv_isub hx hb dX12_feed_97 ?_
  refine lv_cst 0 (by decide) ?_
  refine lv_ishr hx hb dX12_feed_98 ?_
  refine lv_i2b (v := _) hx hb dX12_feed_99 rfl ?_
  refine lv_topi (fun z23 _ => ?_)
  refine va_bast hx hb hKX.1 hP hD hS 1 3 rfl rfl (vind (by decide)) dX12_feed_100 (fun H locs hP hD hS => ?_)
  have hP : va_P D vwCl [(mh, .inr (12, [.int 0, .int 100, .int 200, .int 5, .int 100, .int 0, .int 0, .int 0, .int 0, .int 0, .int 0, .ref (mq 0), .int 0, .ref (mq 1), .ref (mq 2), .ref (mq 3), .ref (mq 4), .ref (mq 5), .ref (mq 6), .ref (mq 7), .ref (mq 8), .ref (mq 9), .ref (mq 10), .int 0, .ref (mq 11), .ref (mq 12), .ref (mq 13), .int 0, .ref (mq 14), .ref (mq 15), .ref (mq 16), .ref (mq 17), .ref (mq 18), .int 11, .int 0, .int 0, .int 0, .int 0, .int 0, .int 0, .int (-1), .ref (mq 19), .ref (mq 20), .ref (mq 21), .ref (mq 22), .ref (mq 23), .ref (mq 24), .int 0, .int 0, .int 0, .ref (mq 25), .ref (mq 26), .ref (mq 27), .ref (mq 28), .ref (mq 29)])), ((mq 18), .inl (cy 3, 300, .inl (upd g22 (Int32.toNatClampNeg 11) (vp_nar .byte z23))))] H := hP
  have hD : va_D A [(mh, .inr (12, [.int 0, .int 100, .int 200, .int 5, .int 100, .int 0, .int 0, .int 0, .int 0, .int 0, .int 0, .ref (mq 0), .int 0, .ref (mq 1), .ref (mq 2), .ref (mq 3), .ref (mq 4), .ref (mq 5), .ref (mq 6), .ref (mq 7), .ref (mq 8), .ref (mq 9), .ref (mq 10), .int 0, .ref (mq 11), .ref (mq 12), .ref (mq 13), .int 0, .ref (mq 14), .ref (mq 15), .ref (mq 16), .ref (mq 17), .ref (mq 18), .int 11, .int 0, .int 0, .int 0, .int 0, .int 0, .int 0, .int (-1), .ref (mq 19), .ref (mq 20), .ref (mq 21), .ref (mq 22), .ref (mq 23), .ref (mq 24), .int 0, .int 0, .int 0, .ref (mq 25), .ref (mq 26), .ref (mq 27), .ref (mq 28), .ref (mq 29)])), ((mq 18), .inl (cy 3, 300, .inl (upd g22 (Int32.toNatClampNeg 11) (vp_nar .byte z23))))] := hD
  generalize (upd g22 (Int32.toNatClampNeg 11) (vp_nar .byte z23) : Nat → Int32) = g24 at hP hD
  refine lv_aload_n hx hb dX12_feed_101 rfl (lv_at hl 2 rfl) ?_
  refine lv_dup hx hb dX12_feed_102 rfl ?_
  refine va_get (D := D) (ci := 12) (v := .int 11) (C := RX12) (T := TX12) (N := 55) hx hb hts iw_X12_feed_X12 hown hKX.1 hP 0 rfl rfl 33 (by decide) (hts (.fieldLink RX12 196 "TrainFerryModel" "taped" "I") (by decide +kernel)) (fun _ h9 => h9) rfl dX12_feed_103 ?_
  refine lv_iconst (v := 1) hx hb dX12_feed_106 (by decide) ?_
  refine lv_iadd hx hb dX12_feed_107 ?_
  refine lv_cst 12 (by decide) ?_
  refine va_put (D := D) (ci := 12) (v := .int 12) (ty := .int) (C := RX12) (T := TX12) (N := 55) hx hb hts iw_X12_feed_X12 tyX12 tyX12_ok nmX12 hown hKX.1 hP hD hS 0 rfl rfl 33 (by decide) (hts (.fieldLink RX12 196 "TrainFerryModel" "taped" "I") (by decide +kernel)) (fun _ h9 => h9) rfl (by decide +kernel) rfl rfl (Nat.le_of_ble_eq_true rfl) dX12_feed_108 (fun H locs hP hD hS => ?_)
  have hP : va_P D vwCl [(mh, .inr (12, [.int 0, .int 100, .int 200, .int 5, .int 100, .int 0, .int 0, .int 0, .int 0, .int 0, .int 0, .ref (mq 0), .int 0, .ref (mq 1), .ref (mq 2), .ref (mq 3), .ref (mq 4), .ref (mq 5), .ref (mq 6), .ref (mq 7), .ref (mq 8), .ref (mq 9), .ref (mq 10), .int 0, .ref (mq 11), .ref (mq 12), .ref (mq 13), .int 0, .ref (mq 14), .ref (mq 15), .ref (mq 16), .ref (mq 17), .ref (mq 18), .int 12, .int 0, .int 0, .int 0, .int 0, .int 0, .int 0, .int (-1), .ref (mq 19), .ref (mq 20), .ref (mq 21), .ref (mq 22), .ref (mq 23), .ref (mq 24), .int 0, .int 0, .int 0, .ref (mq 25), .ref (mq 26), .ref (mq 27), .ref (mq 28), .ref (mq 29)])), ((mq 18), .inl (cy 3, 300, .inl g24))] H := hP
  have hD : va_D A [(mh, .inr (12, [.int 0, .int 100, .int 200, .int 5, .int 100, .int 0, .int 0, .int 0, .int 0, .int 0, .int 0, .ref (mq 0), .int 0, .ref (mq 1), .ref (mq 2), .ref (mq 3), .ref (mq 4), .ref (mq 5), .ref (mq 6), .ref (mq 7), .ref (mq 8), .ref (mq 9), .ref (mq 10), .int 0, .ref (mq 11), .ref (mq 12), .ref (mq 13), .int 0, .ref (mq 14), .ref (mq 15), .ref (mq 16), .ref (mq 17), .ref (mq 18), .int 12, .int 0, .int 0, .int 0, .int 0, .int 0, .int 0, .int (-1), .ref (mq 19), .ref (mq 20), .ref (mq 21), .ref (mq 22), .ref (mq 23), .ref (mq 24), .int 0, .int 0, .int 0, .ref (mq 25), .ref (mq 26), .ref (mq 27), .ref (mq 28), .ref (mq 29)])), ((mq 18), .inl (cy 3, 300, .inl g24))] := hD
  refine lv_iinc (v := 12) (lv' := [(6, .int 12), (7, .int xc), (0, .ref mh), (1, .int xa), (2, .int xb), (3, .int xc), (4, .int xd), (5, .int xe)]) hx hb dX12_feed_111 hl (k := 1) rfl (by decide) (by decide) rfl (fun ls hl => ?_)
  refine lv_goto (tgt := 23) hx hb dX12_feed_114 (by decide) ?_
  refine lv_iload hx hb dX12_feed_23 (lv_at hl 0 rfl) ?_
  refine lv_bipush (v := 20) hx hb dX12_feed_25 (by decide) ?_
  refine lv_icmp_ge (tgt := 117) hx hb dX12_feed_27 (by decide) (fun c9 => absurd c9 (by decide)) (fun _ => ?_)
  refine lv_iload hx hb dX12_feed_30 (lv_at hl 0 rfl) ?_
  refine lv_iconst (v := 4) hx hb dX12_feed_32 (by decide) ?_
  refine lv_icmp_ge (tgt := 40) hx hb dX12_feed_33 (by decide) (fun _ => ?_) (fun c9 => absurd (by decide) c9)
  refine lv_iload hx hb dX12_feed_40 (lv_at hl 0 rfl) ?_
  refine lv_bipush (v := 8) hx hb dX12_feed_42 (by decide) ?_
  refine lv_icmp_ge (tgt := 51) hx hb dX12_feed_44 (by decide) (fun _ => ?_) (fun c9 => absurd (by decide) c9)
  refine lv_iload hx hb dX12_feed_51 (lv_at hl 0 rfl) ?_
  refine lv_bipush (v := 12) hx hb dX12_feed_53 (by decide) ?_
  refine lv_icmp_ge (tgt := 62) hx hb dX12_feed_55 (by decide) (fun _ => ?_) (fun c9 => absurd (by decide) c9)
  refine lv_iload hx hb dX12_feed_62 (lv_at hl 0 rfl) ?_
  refine lv_bipush (v := 16) hx hb dX12_feed_64 (by decide) ?_
  refine lv_icmp_ge (tgt := 74) hx hb dX12_feed_66 (by decide) (fun c9 => absurd c9 (by decide)) (fun _ => ?_)
  refine lv_iload hx hb dX12_feed_69 (lv_at hl 6 rfl) ?_
  refine lv_goto (tgt := 76) hx hb dX12_feed_71 (by decide) ?_
  refine lv_istore (lv' := [(7, .int xd), (6, .int 12), (0, .ref mh), (1, .int xa), (2, .int xb), (3, .int xc), (4, .int xd), (5, .int xe)]) hx hb dX12_feed_76 hl (by decide) rfl (fun ls hl => ?_)
  refine lv_aload_n hx hb dX12_feed_78 rfl (lv_at hl 2 rfl) ?_
  refine va_get (D := D) (ci := 12) (v := .ref (mq 18)) (C := RX12) (T := TX12) (N := 55) hx hb hts iw_X12_feed_X12 hown hKX.1 hP 0 rfl rfl 32 (by decide) (hts (.fieldLink RX12 82 "TrainFerryModel" "tape" "[B") (by decide +kernel)) (fun _ h9 => h9) rfl dX12_feed_79 ?_
  refine lv_aload_n hx hb dX12_feed_82 rfl (lv_at hl 2 rfl) ?_
  refine va_get (D := D) (ci := 12) (v := .int 12) (C := RX12) (T := TX12) (N := 55) hx hb hts iw_X12_feed_X12 hown hKX.1 hP 0 rfl rfl 33 (by decide) (hts (.fieldLink RX12 196 "TrainFerryModel" "taped" "I") (by decide +kernel)) (fun _ h9 => h9) rfl dX12_feed_83 ?_
  refine lv_iload hx hb dX12_feed_86 (lv_at hl 0 rfl) ?_
  refine lv_bipush (v := 24) hx hb dX12_feed_88 (by decide) ?_
  refine lv_bipush (v := 8) hx hb dX12_feed_90 (by decide) ?_
  refine lv_iload hx hb dX12_feed_92 (lv_at hl 1 rfl) ?_
  refine lv_iconst (v := 4) hx hb dX12_feed_94 (by decide) ?_
  refine lv_irem hx hb dX12_feed_95 (by decide) ?_
  refine lv_cst 0 (by decide) ?_
  refine lv_imul hx hb dX12_feed_96 ?_
  refine lv_cst 0 (by decide) ?_
  refine lv_isub hx hb dX12_feed_97 ?_
  refine lv_cst 24 (by decide) ?_
  refine lv_ishr hx hb dX12_feed_98 ?_
  refine lv_i2b (v := _) hx hb dX12_feed_99 rfl ?_
  refine lv_topi (fun z25 _ => ?_)
  refine va_bast hx hb hKX.1 hP hD hS 1 3 rfl rfl (vind (by decide)) dX12_feed_100 (fun H locs hP hD hS => ?_)
  have hP : va_P D vwCl [(mh, .inr (12, [.int 0, .int 100, .int 200, .int 5, .int 100, .int 0, .int 0, .int 0, .int 0, .int 0, .int 0, .ref (mq 0), .int 0, .ref (mq 1), .ref (mq 2), .ref (mq 3), .ref (mq 4), .ref (mq 5), .ref (mq 6), .ref (mq 7), .ref (mq 8), .ref (mq 9), .ref (mq 10), .int 0, .ref (mq 11), .ref (mq 12), .ref (mq 13), .int 0, .ref (mq 14), .ref (mq 15), .ref (mq 16), .ref (mq 17), .ref (mq 18), .int 12, .int 0, .int 0, .int 0, .int 0, .int 0, .int 0, .int (-1), .ref (mq 19), .ref (mq 20), .ref (mq 21), .ref (mq 22), .ref (mq 23), .ref (mq 24), .int 0, .int 0, .int 0, .ref (mq 25), .ref (mq 26), .ref (mq 27), .ref (mq 28), .ref (mq 29)])), ((mq 18), .inl (cy 3, 300, .inl (upd g24 (Int32.toNatClampNeg 12) (vp_nar .byte z25))))] H := hP
  have hD : va_D A [(mh, .inr (12, [.int 0, .int 100, .int 200, .int 5, .int 100, .int 0, .int 0, .int 0, .int 0, .int 0, .int 0, .ref (mq 0), .int 0, .ref (mq 1), .ref (mq 2), .ref (mq 3), .ref (mq 4), .ref (mq 5), .ref (mq 6), .ref (mq 7), .ref (mq 8), .ref (mq 9), .ref (mq 10), .int 0, .ref (mq 11), .ref (mq 12), .ref (mq 13), .int 0, .ref (mq 14), .ref (mq 15), .ref (mq 16), .ref (mq 17), .ref (mq 18), .int 12, .int 0, .int 0, .int 0, .int 0, .int 0, .int 0, .int (-1), .ref (mq 19), .ref (mq 20), .ref (mq 21), .ref (mq 22), .ref (mq 23), .ref (mq 24), .int 0, .int 0, .int 0, .ref (mq 25), .ref (mq 26), .ref (mq 27), .ref (mq 28), .ref (mq 29)])), ((mq 18), .inl (cy 3, 300, .inl (upd g24 (Int32.toNatClampNeg 12) (vp_nar .byte z25))))] := hD
  generalize (upd g24 (Int32.toNatClampNeg 12) (vp_nar .byte z25) : Nat → Int32) = g26 at hP hD
  refine lv_aload_n hx hb dX12_feed_101 rfl (lv_at hl 2 rfl) ?_
  refine lv_dup hx hb dX12_feed_102 rfl ?_
  refine va_get (D := D) (ci := 12) (v := .int 12) (C := RX12) (T := TX12) (N := 55) hx hb hts iw_X12_feed_X12 hown hKX.1 hP 0 rfl rfl 33 (by decide) (hts (.fieldLink RX12 196 "TrainFerryModel" "taped" "I") (by decide +kernel)) (fun _ h9 => h9) rfl dX12_feed_103 ?_
  refine lv_iconst (v := 1) hx hb dX12_feed_106 (by decide) ?_
  refine lv_iadd hx hb dX12_feed_107 ?_
  refine lv_cst 13 (by decide) ?_
  refine va_put (D := D) (ci := 12) (v := .int 13) (ty := .int) (C := RX12) (T := TX12) (N := 55) hx hb hts iw_X12_feed_X12 tyX12 tyX12_ok nmX12 hown hKX.1 hP hD hS 0 rfl rfl 33 (by decide) (hts (.fieldLink RX12 196 "TrainFerryModel" "taped" "I") (by decide +kernel)) (fun _ h9 => h9) rfl (by decide +kernel) rfl rfl (Nat.le_of_ble_eq_true rfl) dX12_feed_108 (fun H locs hP hD hS => ?_)
  have hP : va_P D vwCl [(mh, .inr (12, [.int 0, .int 100, .int 200, .int 5, .int 100, .int 0, .int 0, .int 0, .int 0, .int 0, .int 0, .ref (mq 0), .int 0, .ref (mq 1), .ref (mq 2), .ref (mq 3), .ref (mq 4), .ref (mq 5), .ref (mq 6), .ref (mq 7), .ref (mq 8), .ref (mq 9), .ref (mq 10), .int 0, .ref (mq 11), .ref (mq 12), .ref (mq 13), .int 0, .ref (mq 14), .ref (mq 15), .ref (mq 16), .ref (mq 17), .ref (mq 18), .int 13, .int 0, .int 0, .int 0, .int 0, .int 0, .int 0, .int (-1), .ref (mq 19), .ref (mq 20), .ref (mq 21), .ref (mq 22), .ref (mq 23), .ref (mq 24), .int 0, .int 0, .int 0, .ref (mq 25), .ref (mq 26), .ref (mq 27), .ref (mq 28), .ref (mq 29)])), ((mq 18), .inl (cy 3, 300, .inl g26))] H := hP
  have hD : va_D A [(mh, .inr (12, [.int 0, .int 100, .int 200, .int 5, .int 100, .int 0, .int 0, .int 0, .int 0, .int 0, .int 0, .ref (mq 0), .int 0, .ref (mq 1), .ref (mq 2), .ref (mq 3), .ref (mq 4), .ref (mq 5), .ref (mq 6), .ref (mq 7), .ref (mq 8), .ref (mq 9), .ref (mq 10), .int 0, .ref (mq 11), .ref (mq 12), .ref (mq 13), .int 0, .ref (mq 14), .ref (mq 15), .ref (mq 16), .ref (mq 17), .ref (mq 18), .int 13, .int 0, .int 0, .int 0, .int 0, .int 0, .int 0, .int (-1), .ref (mq 19), .ref (mq 20), .ref (mq 21), .ref (mq 22), .ref (mq 23), .ref (mq 24), .int 0, .int 0, .int 0, .ref (mq 25), .ref (mq 26), .ref (mq 27), .ref (mq 28), .ref (mq 29)])), ((mq 18), .inl (cy 3, 300, .inl g26))] := hD
  refine lv_iinc (v := 13) (lv' := [(6, .int 13), (7, .int xd), (0, .ref mh), (1, .int xa), (2, .int xb), (3, .int xc), (4, .int xd), (5, .int xe)]) hx hb dX12_feed_111 hl (k := 1) rfl (by decide) (by decide) rfl (fun ls hl => ?_)
  refine lv_goto (tgt := 23) hx hb dX12_feed_114 (by decide) ?_
  refine lv_iload hx hb dX12_feed_23 (lv_at hl 0 rfl) ?_
  refine lv_bipush (v := 20) hx hb dX12_feed_25 (by decide) ?_
  refine lv_icmp_ge (tgt := 117) hx hb dX12_feed_27 (by decide) (fun c9 => absurd c9 (by decide)) (fun _ => ?_)
  refine lv_iload hx hb dX12_feed_30 (lv_at hl 0 rfl) ?_
  refine lv_iconst (v := 4) hx hb dX12_feed_32 (by decide) ?_
  refine lv_icmp_ge (tgt := 40) hx hb dX12_feed_33 (by decide) (fun _ => ?_) (fun c9 => absurd (by decide) c9)
  refine lv_iload hx hb dX12_feed_40 (lv_at hl 0 rfl) ?_
  refine lv_bipush (v := 8) hx hb dX12_feed_42 (by decide) ?_
  refine lv_icmp_ge (tgt := 51) hx hb dX12_feed_44 (by decide) (fun _ => ?_) (fun c9 => absurd (by decide) c9)
  refine lv_iload hx hb dX12_feed_51 (lv_at hl 0 rfl) ?_
  refine lv_bipush (v := 12) hx hb dX12_feed_53 (by decide) ?_
  refine lv_icmp_ge (tgt := 62) hx hb dX12_feed_55 (by decide) (fun _ => ?_) (fun c9 => absurd (by decide) c9)
  refine lv_iload hx hb dX12_feed_62 (lv_at hl 0 rfl) ?_
  refine lv_bipush (v := 16) hx hb dX12_feed_64 (by decide) ?_
  refine lv_icmp_ge (tgt := 74) hx hb dX12_feed_66 (by decide) (fun c9 => absurd c9 (by decide)) (fun _ => ?_)
  refine lv_iload hx hb dX12_feed_69 (lv_at hl 6 rfl) ?_
  refine lv_goto (tgt := 76) hx hb dX12_feed_71 (by decide) ?_
  refine lv_istore (lv' := [(7, .int xd), (6, .int 13), (0, .ref mh), (1, .int xa), (2, .int xb), (3, .int xc), (4, .int xd), (5, .int xe)]) hx hb dX12_feed_76 hl (by decide) rfl (fun ls hl => ?_)
  refine lv_aload_n hx hb dX12_feed_78 rfl (lv_at hl 2 rfl) ?_
  refine va_get (D := D) (ci := 12) (v := .ref (mq 18)) (C := RX12) (T := TX12) (N := 55) hx hb hts iw_X12_feed_X12 hown hKX.1 hP 0 rfl rfl 32 (by decide) (hts (.fieldLink RX12 82 "TrainFerryModel" "tape" "[B") (by decide +kernel)) (fun _ h9 => h9) rfl dX12_feed_79 ?_
  refine lv_aload_n hx hb dX12_feed_82 rfl (lv_at hl 2 rfl) ?_
  refine va_get (D := D) (ci := 12) (v := .int 13) (C := RX12) (T := TX12) (N := 55) hx hb hts iw_X12_feed_X12 hown hKX.1 hP 0 rfl rfl 33 (by decide) (hts (.fieldLink RX12 196 "TrainFerryModel" "taped" "I") (by decide +kernel)) (fun _ h9 => h9) rfl dX12_feed_83 ?_
  refine lv_iload hx hb dX12_feed_86 (lv_at hl 0 rfl) ?_
  refine lv_bipush (v := 24) hx hb dX12_feed_88 (by decide) ?_
  refine lv_bipush (v := 8) hx hb dX12_feed_90 (by decide) ?_
  refine lv_iload hx hb dX12_feed_92 (lv_at hl 1 rfl) ?_
  refine lv_iconst (v := 4) hx hb dX12_feed_94 (by decide) ?_
  refine lv_irem hx hb dX12_feed_95 (by decide) ?_
  refine lv_cst 1 (by decide) ?_
  refine lv_imul hx hb dX12_feed_96 ?_
  refine lv_cst 8 (by decide) ?_
  refine lv_isub hx hb dX12_feed_97 ?_
  refine lv_cst 16 (by decide) ?_
  refine lv_ishr hx hb dX12_feed_98 ?_
  refine lv_i2b (v := _) hx hb dX12_feed_99 rfl ?_
  refine lv_topi (fun z27 _ => ?_)
  refine va_bast hx hb hKX.1 hP hD hS 1 3 rfl rfl (vind (by decide)) dX12_feed_100 (fun H locs hP hD hS => ?_)
  have hP : va_P D vwCl [(mh, .inr (12, [.int 0, .int 100, .int 200, .int 5, .int 100, .int 0, .int 0, .int 0, .int 0, .int 0, .int 0, .ref (mq 0), .int 0, .ref (mq 1), .ref (mq 2), .ref (mq 3), .ref (mq 4), .ref (mq 5), .ref (mq 6), .ref (mq 7), .ref (mq 8), .ref (mq 9), .ref (mq 10), .int 0, .ref (mq 11), .ref (mq 12), .ref (mq 13), .int 0, .ref (mq 14), .ref (mq 15), .ref (mq 16), .ref (mq 17), .ref (mq 18), .int 13, .int 0, .int 0, .int 0, .int 0, .int 0, .int 0, .int (-1), .ref (mq 19), .ref (mq 20), .ref (mq 21), .ref (mq 22), .ref (mq 23), .ref (mq 24), .int 0, .int 0, .int 0, .ref (mq 25), .ref (mq 26), .ref (mq 27), .ref (mq 28), .ref (mq 29)])), ((mq 18), .inl (cy 3, 300, .inl (upd g26 (Int32.toNatClampNeg 13) (vp_nar .byte z27))))] H := hP
  have hD : va_D A [(mh, .inr (12, [.int 0, .int 100, .int 200, .int 5, .int 100, .int 0, .int 0, .int 0, .int 0, .int 0, .int 0, .ref (mq 0), .int 0, .ref (mq 1), .ref (mq 2), .ref (mq 3), .ref (mq 4), .ref (mq 5), .ref (mq 6), .ref (mq 7), .ref (mq 8), .ref (mq 9), .ref (mq 10), .int 0, .ref (mq 11), .ref (mq 12), .ref (mq 13), .int 0, .ref (mq 14), .ref (mq 15), .ref (mq 16), .ref (mq 17), .ref (mq 18), .int 13, .int 0, .int 0, .int 0, .int 0, .int 0, .int 0, .int (-1), .ref (mq 19), .ref (mq 20), .ref (mq 21), .ref (mq 22), .ref (mq 23), .ref (mq 24), .int 0, .int 0, .int 0, .ref (mq 25), .ref (mq 26), .ref (mq 27), .ref (mq 28), .ref (mq 29)])), ((mq 18), .inl (cy 3, 300, .inl (upd g26 (Int32.toNatClampNeg 13) (vp_nar .byte z27))))] := hD
  generalize (upd g26 (Int32.toNatClampNeg 13) (vp_nar .byte z27) : Nat → Int32) = g28 at hP hD
  refine lv_aload_n hx hb dX12_feed_101 rfl (lv_at hl 2 rfl) ?_
  refine lv_dup hx hb dX12_feed_102 rfl ?_
  refine va_get (D := D) (ci := 12) (v := .int 13) (C := RX12) (T := TX12) (N := 55) hx hb hts iw_X12_feed_X12 hown hKX.1 hP 0 rfl rfl 33 (by decide) (hts (.fieldLink RX12 196 "TrainFerryModel" "taped" "I") (by decide +kernel)) (fun _ h9 => h9) rfl dX12_feed_103 ?_
  refine lv_iconst (v := 1) hx hb dX12_feed_106 (by decide) ?_
  refine lv_iadd hx hb dX12_feed_107 ?_
  refine lv_cst 14 (by decide) ?_
  refine va_put (D := D) (ci := 12) (v := .int 14) (ty := .int) (C := RX12) (T := TX12) (N := 55) hx hb hts iw_X12_feed_X12 tyX12 tyX12_ok nmX12 hown hKX.1 hP hD hS 0 rfl rfl 33 (by decide) (hts (.fieldLink RX12 196 "TrainFerryModel" "taped" "I") (by decide +kernel)) (fun _ h9 => h9) rfl (by decide +kernel) rfl rfl (Nat.le_of_ble_eq_true rfl) dX12_feed_108 (fun H locs hP hD hS => ?_)
  have hP : va_P D vwCl [(mh, .inr (12, [.int 0, .int 100, .int 200, .int 5, .int 100, .int 0, .int 0, .int 0, .int 0, .int 0, .int 0, .ref (mq 0), .int 0, .ref (mq 1), .ref (mq 2), .ref (mq 3), .ref (mq 4), .ref (mq 5), .ref (mq 6), .ref (mq 7), .ref (mq 8), .ref (mq 9), .ref (mq 10), .int 0, .ref (mq 11), .ref (mq 12), .ref (mq 13), .int 0, .ref (mq 14), .ref (mq 15), .ref (mq 16), .ref (mq 17), .ref (mq 18), .int 14, .int 0, .int 0, .int 0, .int 0, .int 0, .int 0, .int (-1), .ref (mq 19), .ref (mq 20), .ref (mq 21), .ref (mq 22), .ref (mq 23), .ref (mq 24), .int 0, .int 0, .int 0, .ref (mq 25), .ref (mq 26), .ref (mq 27), .ref (mq 28), .ref (mq 29)])), ((mq 18), .inl (cy 3, 300, .inl g28))] H := hP
  have hD : va_D A [(mh, .inr (12, [.int 0, .int 100, .int 200, .int 5, .int 100, .int 0, .int 0, .int 0, .int 0, .int 0, .int 0, .ref (mq 0), .int 0, .ref (mq 1), .ref (mq 2), .ref (mq 3), .ref (mq 4), .ref (mq 5), .ref (mq 6), .ref (mq 7), .ref (mq 8), .ref (mq 9), .ref (mq 10), .int 0, .ref (mq 11), .ref (mq 12), .ref (mq 13), .int 0, .ref (mq 14), .ref (mq 15), .ref (mq 16), .ref (mq 17), .ref (mq 18), .int 14, .int 0, .int 0, .int 0, .int 0, .int 0, .int 0, .int (-1), .ref (mq 19), .ref (mq 20), .ref (mq 21), .ref (mq 22), .ref (mq 23), .ref (mq 24), .int 0, .int 0, .int 0, .ref (mq 25), .ref (mq 26), .ref (mq 27), .ref (mq 28), .ref (mq 29)])), ((mq 18), .inl (cy 3, 300, .inl g28))] := hD
  refine lv_iinc (v := 14) (lv' := [(6, .int 14), (7, .int xd), (0, .ref mh), (1, .int xa), (2, .int xb), (3, .int xc), (4, .int xd), (5, .int xe)]) hx hb dX12_feed_111 hl (k := 1) rfl (by decide) (by decide) rfl (fun ls hl => ?_)
  refine lv_goto (tgt := 23) hx hb dX12_feed_114 (by decide) ?_
  refine lv_iload hx hb dX12_feed_23 (lv_at hl 0 rfl) ?_
  refine lv_bipush (v := 20) hx hb dX12_feed_25 (by decide) ?_
  refine lv_icmp_ge (tgt := 117) hx hb dX12_feed_27 (by decide) (fun c9 => absurd c9 (by decide)) (fun _ => ?_)
  refine lv_iload hx hb dX12_feed_30 (lv_at hl 0 rfl) ?_
  refine lv_iconst (v := 4) hx hb dX12_feed_32 (by decide) ?_
  refine lv_icmp_ge (tgt := 40) hx hb dX12_feed_33 (by decide) (fun _ => ?_) (fun c9 => absurd (by decide) c9)
  refine lv_iload hx hb dX12_feed_40 (lv_at hl 0 rfl) ?_
  refine lv_bipush (v := 8) hx hb dX12_feed_42 (by decide) ?_
  refine lv_icmp_ge (tgt := 51) hx hb dX12_feed_44 (by decide) (fun _ => ?_) (fun c9 => absurd (by decide) c9)
  refine lv_iload hx hb dX12_feed_51 (lv_at hl 0 rfl) ?_
  refine lv_bipush (v := 12) hx hb dX12_feed_53 (by decide) ?_
  refine lv_icmp_ge (tgt := 62) hx hb dX12_feed_55 (by decide) (fun _ => ?_) (fun c9 => absurd (by decide) c9)
  refine lv_iload hx hb dX12_feed_62 (lv_at hl 0 rfl) ?_
  refine lv_bipush (v := 16) hx hb dX12_feed_64 (by decide) ?_
  refine lv_icmp_ge (tgt := 74) hx hb dX12_feed_66 (by decide) (fun c9 => absurd c9 (by decide)) (fun _ => ?_)
  refine lv_iload hx hb dX12_feed_69 (lv_at hl 6 rfl) ?_
  refine lv_goto (tgt := 76) hx hb dX12_feed_71 (by decide) ?_
  refine lv_istore (lv' := [(7, .int xd), (6, .int 14), (0, .ref mh), (1, .int xa), (2, .int xb), (3, .int xc), (4, .int xd), (5, .int xe)]) hx hb dX12_feed_76 hl (by decide) rfl (fun ls hl => ?_)
  refine lv_aload_n hx hb dX12_feed_78 rfl (lv_at hl 2 rfl) ?_
  refine va_get (D := D) (ci := 12) (v := .ref (mq 18)) (C := RX12) (T := TX12) (N := 55) hx hb hts iw_X12_feed_X12 hown hKX.1 hP 0 rfl rfl 32 (by decide) (hts (.fieldLink RX12 82 "TrainFerryModel" "tape" "[B") (by decide +kernel)) (fun _ h9 => h9) rfl dX12_feed_79 ?_
  refine lv_aload_n hx hb dX12_feed_82 rfl (lv_at hl 2 rfl) ?_
  refine va_get (D := D) (ci := 12) (v := .int 14) (C := RX12) (T := TX12) (N := 55) hx hb hts iw_X12_feed_X12 hown hKX.1 hP 0 rfl rfl 33 (by decide) (hts (.fieldLink RX12 196 "TrainFerryModel" "taped" "I") (by decide +kernel)) (fun _ h9 => h9) rfl dX12_feed_83 ?_
  refine lv_iload hx hb dX12_feed_86 (lv_at hl 0 rfl) ?_
  refine lv_bipush (v := 24) hx hb dX12_feed_88 (by decide) ?_
  refine lv_bipush (v := 8) hx hb dX12_feed_90 (by decide) ?_
  refine lv_iload hx hb dX12_feed_92 (lv_at hl 1 rfl) ?_
  refine lv_iconst (v := 4) hx hb dX12_feed_94 (by decide) ?_
  refine lv_irem hx hb dX12_feed_95 (by decide) ?_
  refine lv_cst 2 (by decide) ?_
  refine lv_imul hx hb dX12_feed_96 ?_
  refine lv_cst 16 (by decide) ?_
  refine lv_isub hx hb dX12_feed_97 ?_
  refine lv_cst 8 (by decide) ?_
  refine lv_ishr hx hb dX12_feed_98 ?_
  refine lv_i2b (v := _) hx hb dX12_feed_99 rfl ?_
  refine lv_topi (fun z29 _ => ?_)
  refine va_bast hx hb hKX.1 hP hD hS 1 3 rfl rfl (vind (by decide)) dX12_feed_100 (fun H locs hP hD hS => ?_)
  have hP : va_P D vwCl [(mh, .inr (12, [.int 0, .int 100, .int 200, .int 5, .int 100, .int 0, .int 0, .int 0, .int 0, .int 0, .int 0, .ref (mq 0), .int 0, .ref (mq 1), .ref (mq 2), .ref (mq 3), .ref (mq 4), .ref (mq 5), .ref (mq 6), .ref (mq 7), .ref (mq 8), .ref (mq 9), .ref (mq 10), .int 0, .ref (mq 11), .ref (mq 12), .ref (mq 13), .int 0, .ref (mq 14), .ref (mq 15), .ref (mq 16), .ref (mq 17), .ref (mq 18), .int 14, .int 0, .int 0, .int 0, .int 0, .int 0, .int 0, .int (-1), .ref (mq 19), .ref (mq 20), .ref (mq 21), .ref (mq 22), .ref (mq 23), .ref (mq 24), .int 0, .int 0, .int 0, .ref (mq 25), .ref (mq 26), .ref (mq 27), .ref (mq 28), .ref (mq 29)])), ((mq 18), .inl (cy 3, 300, .inl (upd g28 (Int32.toNatClampNeg 14) (vp_nar .byte z29))))] H := hP
  have hD : va_D A [(mh, .inr (12, [.int 0, .int 100, .int 200, .int 5, .int 100, .int 0, .int 0, .int 0, .int 0, .int 0, .int 0, .ref (mq 0), .int 0, .ref (mq 1), .ref (mq 2), .ref (mq 3), .ref (mq 4), .ref (mq 5), .ref (mq 6), .ref (mq 7), .ref (mq 8), .ref (mq 9), .ref (mq 10), .int 0, .ref (mq 11), .ref (mq 12), .ref (mq 13), .int 0, .ref (mq 14), .ref (mq 15), .ref (mq 16), .ref (mq 17), .ref (mq 18), .int 14, .int 0, .int 0, .int 0, .int 0, .int 0, .int 0, .int (-1), .ref (mq 19), .ref (mq 20), .ref (mq 21), .ref (mq 22), .ref (mq 23), .ref (mq 24), .int 0, .int 0, .int 0, .ref (mq 25), .ref (mq 26), .ref (mq 27), .ref (mq 28), .ref (mq 29)])), ((mq 18), .inl (cy 3, 300, .inl (upd g28 (Int32.toNatClampNeg 14) (vp_nar .byte z29))))] := hD
  generalize (upd g28 (Int32.toNatClampNeg 14) (vp_nar .byte z29) : Nat → Int32) = g30 at hP hD
  refine lv_aload_n hx hb dX12_feed_101 rfl (lv_at hl 2 rfl) ?_
  refine lv_dup hx hb dX12_feed_102 rfl ?_
  refine va_get (D := D) (ci := 12) (v := .int 14) (C := RX12) (T := TX12) (N := 55) hx hb hts iw_X12_feed_X12 hown hKX.1 hP 0 rfl rfl 33 (by decide) (hts (.fieldLink RX12 196 "TrainFerryModel" "taped" "I") (by decide +kernel)) (fun _ h9 => h9) rfl dX12_feed_103 ?_
  refine lv_iconst (v := 1) hx hb dX12_feed_106 (by decide) ?_
  refine lv_iadd hx hb dX12_feed_107 ?_
  refine lv_cst 15 (by decide) ?_
  refine va_put (D := D) (ci := 12) (v := .int 15) (ty := .int) (C := RX12) (T := TX12) (N := 55) hx hb hts iw_X12_feed_X12 tyX12 tyX12_ok nmX12 hown hKX.1 hP hD hS 0 rfl rfl 33 (by decide) (hts (.fieldLink RX12 196 "TrainFerryModel" "taped" "I") (by decide +kernel)) (fun _ h9 => h9) rfl (by decide +kernel) rfl rfl (Nat.le_of_ble_eq_true rfl) dX12_feed_108 (fun H locs hP hD hS => ?_)
  have hP : va_P D vwCl [(mh, .inr (12, [.int 0, .int 100, .int 200, .int 5, .int 100, .int 0, .int 0, .int 0, .int 0, .int 0, .int 0, .ref (mq 0), .int 0, .ref (mq 1), .ref (mq 2), .ref (mq 3), .ref (mq 4), .ref (mq 5), .ref (mq 6), .ref (mq 7), .ref (mq 8), .ref (mq 9), .ref (mq 10), .int 0, .ref (mq 11), .ref (mq 12), .ref (mq 13), .int 0, .ref (mq 14), .ref (mq 15), .ref (mq 16), .ref (mq 17), .ref (mq 18), .int 15, .int 0, .int 0, .int 0, .int 0, .int 0, .int 0, .int (-1), .ref (mq 19), .ref (mq 20), .ref (mq 21), .ref (mq 22), .ref (mq 23), .ref (mq 24), .int 0, .int 0, .int 0, .ref (mq 25), .ref (mq 26), .ref (mq 27), .ref (mq 28), .ref (mq 29)])), ((mq 18), .inl (cy 3, 300, .inl g30))] H := hP
  have hD : va_D A [(mh, .inr (12, [.int 0, .int 100, .int 200, .int 5, .int 100, .int 0, .int 0, .int 0, .int 0, .int 0, .int 0, .ref (mq 0), .int 0, .ref (mq 1), .ref (mq 2), .ref (mq 3), .ref (mq 4), .ref (mq 5), .ref (mq 6), .ref (mq 7), .ref (mq 8), .ref (mq 9), .ref (mq 10), .int 0, .ref (mq 11), .ref (mq 12), .ref (mq 13), .int 0, .ref (mq 14), .ref (mq 15), .ref (mq 16), .ref (mq 17), .ref (mq 18), .int 15, .int 0, .int 0, .int 0, .int 0, .int 0, .int 0, .int (-1), .ref (mq 19), .ref (mq 20), .ref (mq 21), .ref (mq 22), .ref (mq 23), .ref (mq 24), .int 0, .int 0, .int 0, .ref (mq 25), .ref (mq 26), .ref (mq 27), .ref (mq 28), .ref (mq 29)])), ((mq 18), .inl (cy 3, 300, .inl g30))] := hD
  refine lv_iinc (v := 15) (lv' := [(6, .int 15), (7, .int xd), (0, .ref mh), (1, .int xa), (2, .int xb), (3, .int xc), (4, .int xd), (5, .int xe)]) hx hb dX12_feed_111 hl (k := 1) rfl (by decide) (by decide) rfl (fun ls hl => ?_)
  refine lv_goto (tgt := 23) hx hb dX12_feed_114 (by decide) ?_
  refine lv_iload hx hb dX12_feed_23 (lv_at hl 0 rfl) ?_
  refine lv_bipush (v := 20) hx hb dX12_feed_25 (by decide) ?_
  refine lv_icmp_ge (tgt := 117) hx hb dX12_feed_27 (by decide) (fun c9 => absurd c9 (by decide)) (fun _ => ?_)
  refine lv_iload hx hb dX12_feed_30 (lv_at hl 0 rfl) ?_
  refine lv_iconst (v := 4) hx hb dX12_feed_32 (by decide) ?_
  refine lv_icmp_ge (tgt := 40) hx hb dX12_feed_33 (by decide) (fun _ => ?_) (fun c9 => absurd (by decide) c9)
  refine lv_iload hx hb dX12_feed_40 (lv_at hl 0 rfl) ?_
  refine lv_bipush (v := 8) hx hb dX12_feed_42 (by decide) ?_
  refine lv_icmp_ge (tgt := 51) hx hb dX12_feed_44 (by decide) (fun _ => ?_) (fun c9 => absurd (by decide) c9)
  refine lv_iload hx hb dX12_feed_51 (lv_at hl 0 rfl) ?_
  refine lv_bipush (v := 12) hx hb dX12_feed_53 (by decide) ?_
  refine lv_icmp_ge (tgt := 62) hx hb dX12_feed_55 (by decide) (fun _ => ?_) (fun c9 => absurd (by decide) c9)
  refine lv_iload hx hb dX12_feed_62 (lv_at hl 0 rfl) ?_
  refine lv_bipush (v := 16) hx hb dX12_feed_64 (by decide) ?_
  refine lv_icmp_ge (tgt := 74) hx hb dX12_feed_66 (by decide) (fun c9 => absurd c9 (by decide)) (fun _ => ?_)
  refine lv_iload hx hb dX12_feed_69 (lv_at hl 6 rfl) ?_
  refine lv_goto (tgt := 76) hx hb dX12_feed_71 (by decide) ?_
  refine lv_istore (lv' := [(7, .int xd), (6, .int 15), (0, .ref mh), (1, .int xa), (2, .int xb), (3, .int xc), (4, .int xd), (5, .int xe)]) hx hb dX12_feed_76 hl (by decide) rfl (fun ls hl => ?_)
  refine lv_aload_n hx hb dX12_feed_78 rfl (lv_at hl 2 rfl) ?_
  refine va_get (D := D) (ci := 12) (v := .ref (mq 18)) (C := RX12) (T := TX12) (N := 55) hx hb hts iw_X12_feed_X12 hown hKX.1 hP 0 rfl rfl 32 (by decide) (hts (.fieldLink RX12 82 "TrainFerryModel" "tape" "[B") (by decide +kernel)) (fun _ h9 => h9) rfl dX12_feed_79 ?_
  refine lv_aload_n hx hb dX12_feed_82 rfl (lv_at hl 2 rfl) ?_
  refine va_get (D := D) (ci := 12) (v := .int 15) (C := RX12) (T := TX12) (N := 55) hx hb hts iw_X12_feed_X12 hown hKX.1 hP 0 rfl rfl 33 (by decide) (hts (.fieldLink RX12 196 "TrainFerryModel" "taped" "I") (by decide +kernel)) (fun _ h9 => h9) rfl dX12_feed_83 ?_
  refine lv_iload hx hb dX12_feed_86 (lv_at hl 0 rfl) ?_
  refine lv_bipush (v := 24) hx hb dX12_feed_88 (by decide) ?_
  refine lv_bipush (v := 8) hx hb dX12_feed_90 (by decide) ?_
  refine lv_iload hx hb dX12_feed_92 (lv_at hl 1 rfl) ?_
  refine lv_iconst (v := 4) hx hb dX12_feed_94 (by decide) ?_
  refine lv_irem hx hb dX12_feed_95 (by decide) ?_
  refine lv_cst 3 (by decide) ?_
  refine lv_imul hx hb dX12_feed_96 ?_
  refine lv_cst 24 (by decide) ?_
  refine lv_isub hx hb dX12_feed_97 ?_
  refine lv_cst 0 (by decide) ?_
  refine lv_ishr hx hb dX12_feed_98 ?_
  refine lv_i2b (v := _) hx hb dX12_feed_99 rfl ?_
  refine lv_topi (fun z31 _ => ?_)
  refine va_bast hx hb hKX.1 hP hD hS 1 3 rfl rfl (vind (by decide)) dX12_feed_100 (fun H locs hP hD hS => ?_)
  have hP : va_P D vwCl [(mh, .inr (12, [.int 0, .int 100, .int 200, .int 5, .int 100, .int 0, .int 0, .int 0, .int 0, .int 0, .int 0, .ref (mq 0), .int 0, .ref (mq 1), .ref (mq 2), .ref (mq 3), .ref (mq 4), .ref (mq 5), .ref (mq 6), .ref (mq 7), .ref (mq 8), .ref (mq 9), .ref (mq 10), .int 0, .ref (mq 11), .ref (mq 12), .ref (mq 13), .int 0, .ref (mq 14), .ref (mq 15), .ref (mq 16), .ref (mq 17), .ref (mq 18), .int 15, .int 0, .int 0, .int 0, .int 0, .int 0, .int 0, .int (-1), .ref (mq 19), .ref (mq 20), .ref (mq 21), .ref (mq 22), .ref (mq 23), .ref (mq 24), .int 0, .int 0, .int 0, .ref (mq 25), .ref (mq 26), .ref (mq 27), .ref (mq 28), .ref (mq 29)])), ((mq 18), .inl (cy 3, 300, .inl (upd g30 (Int32.toNatClampNeg 15) (vp_nar .byte z31))))] H := hP
  have hD : va_D A [(mh, .inr (12, [.int 0, .int 100, .int 200, .int 5, .int 100, .int 0, .int 0, .int 0, .int 0, .int 0, .int 0, .ref (mq 0), .int 0, .ref (mq 1), .ref (mq 2), .ref (mq 3), .ref (mq 4), .ref (mq 5), .ref (mq 6), .ref (mq 7), .ref (mq 8), .ref (mq 9), .ref (mq 10), .int 0, .ref (mq 11), .ref (mq 12), .ref (mq 13), .int 0, .ref (mq 14), .ref (mq 15), .ref (mq 16), .ref (mq 17), .ref (mq 18), .int 15, .int 0, .int 0, .int 0, .int 0, .int 0, .int 0, .int (-1), .ref (mq 19), .ref (mq 20), .ref (mq 21), .ref (mq 22), .ref (mq 23), .ref (mq 24), .int 0, .int 0, .int 0, .ref (mq 25), .ref (mq 26), .ref (mq 27), .ref (mq 28), .ref (mq 29)])), ((mq 18), .inl (cy 3, 300, .inl (upd g30 (Int32.toNatClampNeg 15) (vp_nar .byte z31))))] := hD
  generalize (upd g30 (Int32.toNatClampNeg 15) (vp_nar .byte z31) : Nat → Int32) = g32 at hP hD
  refine lv_aload_n hx hb dX12_feed_101 rfl (lv_at hl 2 rfl) ?_
  refine lv_dup hx hb dX12_feed_102 rfl ?_
  refine va_get (D := D) (ci := 12) (v := .int 15) (C := RX12) (T := TX12) (N := 55) hx hb hts iw_X12_feed_X12 hown hKX.1 hP 0 rfl rfl 33 (by decide) (hts (.fieldLink RX12 196 "TrainFerryModel" "taped" "I") (by decide +kernel)) (fun _ h9 => h9) rfl dX12_feed_103 ?_
  refine lv_iconst (v := 1) hx hb dX12_feed_106 (by decide) ?_
  refine lv_iadd hx hb dX12_feed_107 ?_
  refine lv_cst 16 (by decide) ?_
  refine va_put (D := D) (ci := 12) (v := .int 16) (ty := .int) (C := RX12) (T := TX12) (N := 55) hx hb hts iw_X12_feed_X12 tyX12 tyX12_ok nmX12 hown hKX.1 hP hD hS 0 rfl rfl 33 (by decide) (hts (.fieldLink RX12 196 "TrainFerryModel" "taped" "I") (by decide +kernel)) (fun _ h9 => h9) rfl (by decide +kernel) rfl rfl (Nat.le_of_ble_eq_true rfl) dX12_feed_108 (fun H locs hP hD hS => ?_)
  have hP : va_P D vwCl [(mh, .inr (12, [.int 0, .int 100, .int 200, .int 5, .int 100, .int 0, .int 0, .int 0, .int 0, .int 0, .int 0, .ref (mq 0), .int 0, .ref (mq 1), .ref (mq 2), .ref (mq 3), .ref (mq 4), .ref (mq 5), .ref (mq 6), .ref (mq 7), .ref (mq 8), .ref (mq 9), .ref (mq 10), .int 0, .ref (mq 11), .ref (mq 12), .ref (mq 13), .int 0, .ref (mq 14), .ref (mq 15), .ref (mq 16), .ref (mq 17), .ref (mq 18), .int 16, .int 0, .int 0, .int 0, .int 0, .int 0, .int 0, .int (-1), .ref (mq 19), .ref (mq 20), .ref (mq 21), .ref (mq 22), .ref (mq 23), .ref (mq 24), .int 0, .int 0, .int 0, .ref (mq 25), .ref (mq 26), .ref (mq 27), .ref (mq 28), .ref (mq 29)])), ((mq 18), .inl (cy 3, 300, .inl g32))] H := hP
  have hD : va_D A [(mh, .inr (12, [.int 0, .int 100, .int 200, .int 5, .int 100, .int 0, .int 0, .int 0, .int 0, .int 0, .int 0, .ref (mq 0), .int 0, .ref (mq 1), .ref (mq 2), .ref (mq 3), .ref (mq 4), .ref (mq 5), .ref (mq 6), .ref (mq 7), .ref (mq 8), .ref (mq 9), .ref (mq 10), .int 0, .ref (mq 11), .ref (mq 12), .ref (mq 13), .int 0, .ref (mq 14), .ref (mq 15), .ref (mq 16), .ref (mq 17), .ref (mq 18), .int 16, .int 0, .int 0, .int 0, .int 0, .int 0, .int 0, .int (-1), .ref (mq 19), .ref (mq 20), .ref (mq 21), .ref (mq 22), .ref (mq 23), .ref (mq 24), .int 0, .int 0, .int 0, .ref (mq 25), .ref (mq 26), .ref (mq 27), .ref (mq 28), .ref (mq 29)])), ((mq 18), .inl (cy 3, 300, .inl g32))] := hD
  refine lv_iinc (v := 16) (lv' := [(6, .int 16), (7, .int xd), (0, .ref mh), (1, .int xa), (2, .int xb), (3, .int xc), (4, .int xd), (5, .int xe)]) hx hb dX12_feed_111 hl (k := 1) rfl (by decide) (by decide) rfl (fun ls hl => ?_)
  refine lv_goto (tgt := 23) hx hb dX12_feed_114 (by decide) ?_
  refine lv_iload hx hb dX12_feed_23 (lv_at hl 0 rfl) ?_
  refine lv_bipush (v := 20) hx hb dX12_feed_25 (by decide) ?_
  refine lv_icmp_ge (tgt := 117) hx hb dX12_feed_27 (by decide) (fun c9 => absurd c9 (by decide)) (fun _ => ?_)
  refine lv_iload hx hb dX12_feed_30 (lv_at hl 0 rfl) ?_
  refine lv_iconst (v := 4) hx hb dX12_feed_32 (by decide) ?_
  refine lv_icmp_ge (tgt := 40) hx hb dX12_feed_33 (by decide) (fun _ => ?_) (fun c9 => absurd (by decide) c9)
  refine lv_iload hx hb dX12_feed_40 (lv_at hl 0 rfl) ?_
  refine lv_bipush (v := 8) hx hb dX12_feed_42 (by decide) ?_
  refine lv_icmp_ge (tgt := 51) hx hb dX12_feed_44 (by decide) (fun _ => ?_) (fun c9 => absurd (by decide) c9)
  refine lv_iload hx hb dX12_feed_51 (lv_at hl 0 rfl) ?_
  refine lv_bipush (v := 12) hx hb dX12_feed_53 (by decide) ?_
  refine lv_icmp_ge (tgt := 62) hx hb dX12_feed_55 (by decide) (fun _ => ?_) (fun c9 => absurd (by decide) c9)
  refine lv_iload hx hb dX12_feed_62 (lv_at hl 0 rfl) ?_
  refine lv_bipush (v := 16) hx hb dX12_feed_64 (by decide) ?_
  refine lv_icmp_ge (tgt := 74) hx hb dX12_feed_66 (by decide) (fun _ => ?_) (fun c9 => absurd (by decide) c9)
  refine lv_iload hx hb dX12_feed_74 (lv_at hl 7 rfl) ?_
  refine lv_istore (lv' := [(7, .int xe), (6, .int 16), (0, .ref mh), (1, .int xa), (2, .int xb), (3, .int xc), (4, .int xd), (5, .int xe)]) hx hb dX12_feed_76 hl (by decide) rfl (fun ls hl => ?_)
  refine lv_aload_n hx hb dX12_feed_78 rfl (lv_at hl 2 rfl) ?_
  refine va_get (D := D) (ci := 12) (v := .ref (mq 18)) (C := RX12) (T := TX12) (N := 55) hx hb hts iw_X12_feed_X12 hown hKX.1 hP 0 rfl rfl 32 (by decide) (hts (.fieldLink RX12 82 "TrainFerryModel" "tape" "[B") (by decide +kernel)) (fun _ h9 => h9) rfl dX12_feed_79 ?_
  refine lv_aload_n hx hb dX12_feed_82 rfl (lv_at hl 2 rfl) ?_
  refine va_get (D := D) (ci := 12) (v := .int 16) (C := RX12) (T := TX12) (N := 55) hx hb hts iw_X12_feed_X12 hown hKX.1 hP 0 rfl rfl 33 (by decide) (hts (.fieldLink RX12 196 "TrainFerryModel" "taped" "I") (by decide +kernel)) (fun _ h9 => h9) rfl dX12_feed_83 ?_
  refine lv_iload hx hb dX12_feed_86 (lv_at hl 0 rfl) ?_
  refine lv_bipush (v := 24) hx hb dX12_feed_88 (by decide) ?_
  refine lv_bipush (v := 8) hx hb dX12_feed_90 (by decide) ?_
  refine lv_iload hx hb dX12_feed_92 (lv_at hl 1 rfl) ?_
  refine lv_iconst (v := 4) hx hb dX12_feed_94 (by decide) ?_
  refine lv_irem hx hb dX12_feed_95 (by decide) ?_
  refine lv_cst 0 (by decide) ?_
  refine lv_imul hx hb dX12_feed_96 ?_
  refine lv_cst 0 (by decide) ?_
  refine lv_isub hx hb dX12_feed_97 ?_
  refine lv_cst 24 (by decide) ?_
  refine lv_ishr hx hb dX12_feed_98 ?_
  refine lv_i2b (v := _) hx hb dX12_feed_99 rfl ?_
  refine lv_topi (fun z33 _ => ?_)
  refine va_bast hx hb hKX.1 hP hD hS 1 3 rfl rfl (vind (by decide)) dX12_feed_100 (fun H locs hP hD hS => ?_)
  have hP : va_P D vwCl [(mh, .inr (12, [.int 0, .int 100, .int 200, .int 5, .int 100, .int 0, .int 0, .int 0, .int 0, .int 0, .int 0, .ref (mq 0), .int 0, .ref (mq 1), .ref (mq 2), .ref (mq 3), .ref (mq 4), .ref (mq 5), .ref (mq 6), .ref (mq 7), .ref (mq 8), .ref (mq 9), .ref (mq 10), .int 0, .ref (mq 11), .ref (mq 12), .ref (mq 13), .int 0, .ref (mq 14), .ref (mq 15), .ref (mq 16), .ref (mq 17), .ref (mq 18), .int 16, .int 0, .int 0, .int 0, .int 0, .int 0, .int 0, .int (-1), .ref (mq 19), .ref (mq 20), .ref (mq 21), .ref (mq 22), .ref (mq 23), .ref (mq 24), .int 0, .int 0, .int 0, .ref (mq 25), .ref (mq 26), .ref (mq 27), .ref (mq 28), .ref (mq 29)])), ((mq 18), .inl (cy 3, 300, .inl (upd g32 (Int32.toNatClampNeg 16) (vp_nar .byte z33))))] H := hP
  have hD : va_D A [(mh, .inr (12, [.int 0, .int 100, .int 200, .int 5, .int 100, .int 0, .int 0, .int 0, .int 0, .int 0, .int 0, .ref (mq 0), .int 0, .ref (mq 1), .ref (mq 2), .ref (mq 3), .ref (mq 4), .ref (mq 5), .ref (mq 6), .ref (mq 7), .ref (mq 8), .ref (mq 9), .ref (mq 10), .int 0, .ref (mq 11), .ref (mq 12), .ref (mq 13), .int 0, .ref (mq 14), .ref (mq 15), .ref (mq 16), .ref (mq 17), .ref (mq 18), .int 16, .int 0, .int 0, .int 0, .int 0, .int 0, .int 0, .int (-1), .ref (mq 19), .ref (mq 20), .ref (mq 21), .ref (mq 22), .ref (mq 23), .ref (mq 24), .int 0, .int 0, .int 0, .ref (mq 25), .ref (mq 26), .ref (mq 27), .ref (mq 28), .ref (mq 29)])), ((mq 18), .inl (cy 3, 300, .inl (upd g32 (Int32.toNatClampNeg 16) (vp_nar .byte z33))))] := hD
  generalize (upd g32 (Int32.toNatClampNeg 16) (vp_nar .byte z33) : Nat → Int32) = g34 at hP hD
  refine lv_aload_n hx hb dX12_feed_101 rfl (lv_at hl 2 rfl) ?_
  refine lv_dup hx hb dX12_feed_102 rfl ?_
  refine va_get (D := D) (ci := 12) (v := .int 16) (C := RX12) (T := TX12) (N := 55) hx hb hts iw_X12_feed_X12 hown hKX.1 hP 0 rfl rfl 33 (by decide) (hts (.fieldLink RX12 196 "TrainFerryModel" "taped" "I") (by decide +kernel)) (fun _ h9 => h9) rfl dX12_feed_103 ?_
  refine lv_iconst (v := 1) hx hb dX12_feed_106 (by decide) ?_
  refine lv_iadd hx hb dX12_feed_107 ?_
  refine lv_cst 17 (by decide) ?_
  refine va_put (D := D) (ci := 12) (v := .int 17) (ty := .int) (C := RX12) (T := TX12) (N := 55) hx hb hts iw_X12_feed_X12 tyX12 tyX12_ok nmX12 hown hKX.1 hP hD hS 0 rfl rfl 33 (by decide) (hts (.fieldLink RX12 196 "TrainFerryModel" "taped" "I") (by decide +kernel)) (fun _ h9 => h9) rfl (by decide +kernel) rfl rfl (Nat.le_of_ble_eq_true rfl) dX12_feed_108 (fun H locs hP hD hS => ?_)
  have hP : va_P D vwCl [(mh, .inr (12, [.int 0, .int 100, .int 200, .int 5, .int 100, .int 0, .int 0, .int 0, .int 0, .int 0, .int 0, .ref (mq 0), .int 0, .ref (mq 1), .ref (mq 2), .ref (mq 3), .ref (mq 4), .ref (mq 5), .ref (mq 6), .ref (mq 7), .ref (mq 8), .ref (mq 9), .ref (mq 10), .int 0, .ref (mq 11), .ref (mq 12), .ref (mq 13), .int 0, .ref (mq 14), .ref (mq 15), .ref (mq 16), .ref (mq 17), .ref (mq 18), .int 17, .int 0, .int 0, .int 0, .int 0, .int 0, .int 0, .int (-1), .ref (mq 19), .ref (mq 20), .ref (mq 21), .ref (mq 22), .ref (mq 23), .ref (mq 24), .int 0, .int 0, .int 0, .ref (mq 25), .ref (mq 26), .ref (mq 27), .ref (mq 28), .ref (mq 29)])), ((mq 18), .inl (cy 3, 300, .inl g34))] H := hP
  have hD : va_D A [(mh, .inr (12, [.int 0, .int 100, .int 200, .int 5, .int 100, .int 0, .int 0, .int 0, .int 0, .int 0, .int 0, .ref (mq 0), .int 0, .ref (mq 1), .ref (mq 2), .ref (mq 3), .ref (mq 4), .ref (mq 5), .ref (mq 6), .ref (mq 7), .ref (mq 8), .ref (mq 9), .ref (mq 10), .int 0, .ref (mq 11), .ref (mq 12), .ref (mq 13), .int 0, .ref (mq 14), .ref (mq 15), .ref (mq 16), .ref (mq 17), .ref (mq 18), .int 17, .int 0, .int 0, .int 0, .int 0, .int 0, .int 0, .int (-1), .ref (mq 19), .ref (mq 20), .ref (mq 21), .ref (mq 22), .ref (mq 23), .ref (mq 24), .int 0, .int 0, .int 0, .ref (mq 25), .ref (mq 26), .ref (mq 27), .ref (mq 28), .ref (mq 29)])), ((mq 18), .inl (cy 3, 300, .inl g34))] := hD
  refine lv_iinc (v := 17) (lv' := [(6, .int 17), (7, .int xe), (0, .ref mh), (1, .int xa), (2, .int xb), (3, .int xc), (4, .int xd), (5, .int xe)]) hx hb dX12_feed_111 hl (k := 1) rfl (by decide) (by decide) rfl (fun ls hl => ?_)
  refine lv_goto (tgt := 23) hx hb dX12_feed_114 (by decide) ?_
  refine lv_iload hx hb dX12_feed_23 (lv_at hl 0 rfl) ?_
  refine lv_bipush (v := 20) hx hb dX12_feed_25 (by decide) ?_
  refine lv_icmp_ge (tgt := 117) hx hb dX12_feed_27 (by decide) (fun c9 => absurd c9 (by decide)) (fun _ => ?_)
  refine lv_iload hx hb dX12_feed_30 (lv_at hl 0 rfl) ?_
  refine lv_iconst (v := 4) hx hb dX12_feed_32 (by decide) ?_
  refine lv_icmp_ge (tgt := 40) hx hb dX12_feed_33 (by decide) (fun _ => ?_) (fun c9 => absurd (by decide) c9)
  refine lv_iload hx hb dX12_feed_40 (lv_at hl 0 rfl) ?_
  refine lv_bipush (v := 8) hx hb dX12_feed_42 (by decide) ?_
  refine lv_icmp_ge (tgt := 51) hx hb dX12_feed_44 (by decide) (fun _ => ?_) (fun c9 => absurd (by decide) c9)
  refine lv_iload hx hb dX12_feed_51 (lv_at hl 0 rfl) ?_
  refine lv_bipush (v := 12) hx hb dX12_feed_53 (by decide) ?_
  refine lv_icmp_ge (tgt := 62) hx hb dX12_feed_55 (by decide) (fun _ => ?_) (fun c9 => absurd (by decide) c9)
  refine lv_iload hx hb dX12_feed_62 (lv_at hl 0 rfl) ?_
  refine lv_bipush (v := 16) hx hb dX12_feed_64 (by decide) ?_
  refine lv_icmp_ge (tgt := 74) hx hb dX12_feed_66 (by decide) (fun _ => ?_) (fun c9 => absurd (by decide) c9)
  refine lv_iload hx hb dX12_feed_74 (lv_at hl 7 rfl) ?_
  refine lv_istore (lv' := [(7, .int xe), (6, .int 17), (0, .ref mh), (1, .int xa), (2, .int xb), (3, .int xc), (4, .int xd), (5, .int xe)]) hx hb dX12_feed_76 hl (by decide) rfl (fun ls hl => ?_)
  refine lv_aload_n hx hb dX12_feed_78 rfl (lv_at hl 2 rfl) ?_
  refine va_get (D := D) (ci := 12) (v := .ref (mq 18)) (C := RX12) (T := TX12) (N := 55) hx hb hts iw_X12_feed_X12 hown hKX.1 hP 0 rfl rfl 32 (by decide) (hts (.fieldLink RX12 82 "TrainFerryModel" "tape" "[B") (by decide +kernel)) (fun _ h9 => h9) rfl dX12_feed_79 ?_
  refine lv_aload_n hx hb dX12_feed_82 rfl (lv_at hl 2 rfl) ?_
  refine va_get (D := D) (ci := 12) (v := .int 17) (C := RX12) (T := TX12) (N := 55) hx hb hts iw_X12_feed_X12 hown hKX.1 hP 0 rfl rfl 33 (by decide) (hts (.fieldLink RX12 196 "TrainFerryModel" "taped" "I") (by decide +kernel)) (fun _ h9 => h9) rfl dX12_feed_83 ?_
  refine lv_iload hx hb dX12_feed_86 (lv_at hl 0 rfl) ?_
  refine lv_bipush (v := 24) hx hb dX12_feed_88 (by decide) ?_
  refine lv_bipush (v := 8) hx hb dX12_feed_90 (by decide) ?_
  refine lv_iload hx hb dX12_feed_92 (lv_at hl 1 rfl) ?_
  refine lv_iconst (v := 4) hx hb dX12_feed_94 (by decide) ?_
  refine lv_irem hx hb dX12_feed_95 (by decide) ?_
  refine lv_cst 1 (by decide) ?_
  refine lv_imul hx hb dX12_feed_96 ?_
  refine lv_cst 8 (by decide) ?_
  refine lv_isub hx hb dX12_feed_97 ?_
  refine lv_cst 16 (by decide) ?_
  refine lv_ishr hx hb dX12_feed_98 ?_
  refine lv_i2b (v := _) hx hb dX12_feed_99 rfl ?_
  refine lv_topi (fun z35 _ => ?_)
  refine va_bast hx hb hKX.1 hP hD hS 1 3 rfl rfl (vind (by decide)) dX12_feed_100 (fun H locs hP hD hS => ?_)
  have hP : va_P D vwCl [(mh, .inr (12, [.int 0, .int 100, .int 200, .int 5, .int 100, .int 0, .int 0, .int 0, .int 0, .int 0, .int 0, .ref (mq 0), .int 0, .ref (mq 1), .ref (mq 2), .ref (mq 3), .ref (mq 4), .ref (mq 5), .ref (mq 6), .ref (mq 7), .ref (mq 8), .ref (mq 9), .ref (mq 10), .int 0, .ref (mq 11), .ref (mq 12), .ref (mq 13), .int 0, .ref (mq 14), .ref (mq 15), .ref (mq 16), .ref (mq 17), .ref (mq 18), .int 17, .int 0, .int 0, .int 0, .int 0, .int 0, .int 0, .int (-1), .ref (mq 19), .ref (mq 20), .ref (mq 21), .ref (mq 22), .ref (mq 23), .ref (mq 24), .int 0, .int 0, .int 0, .ref (mq 25), .ref (mq 26), .ref (mq 27), .ref (mq 28), .ref (mq 29)])), ((mq 18), .inl (cy 3, 300, .inl (upd g34 (Int32.toNatClampNeg 17) (vp_nar .byte z35))))] H := hP
  have hD : va_D A [(mh, .inr (12, [.int 0, .int 100, .int 200, .int 5, .int 100, .int 0, .int 0, .int 0, .int 0, .int 0, .int 0, .ref (mq 0), .int 0, .ref (mq 1), .ref (mq 2), .ref (mq 3), .ref (mq 4), .ref (mq 5), .ref (mq 6), .ref (mq 7), .ref (mq 8), .ref (mq 9), .ref (mq 10), .int 0, .ref (mq 11), .ref (mq 12), .ref (mq 13), .int 0, .ref (mq 14), .ref (mq 15), .ref (mq 16), .ref (mq 17), .ref (mq 18), .int 17, .int 0, .int 0, .int 0, .int 0, .int 0, .int 0, .int (-1), .ref (mq 19), .ref (mq 20), .ref (mq 21), .ref (mq 22), .ref (mq 23), .ref (mq 24), .int 0, .int 0, .int 0, .ref (mq 25), .ref (mq 26), .ref (mq 27), .ref (mq 28), .ref (mq 29)])), ((mq 18), .inl (cy 3, 300, .inl (upd g34 (Int32.toNatClampNeg 17) (vp_nar .byte z35))))] := hD
  generalize (upd g34 (Int32.toNatClampNeg 17) (vp_nar .byte z35) : Nat → Int32) = g36 at hP hD
  refine lv_aload_n hx hb dX12_feed_101 rfl (lv_at hl 2 rfl) ?_
  refine lv_dup hx hb dX12_feed_102 rfl ?_
  refine va_get (D := D) (ci := 12) (v := .int 17) (C := RX12) (T := TX12) (N := 55) hx hb hts iw_X12_feed_X12 hown hKX.1 hP 0 rfl rfl 33 (by decide) (hts (.fieldLink RX12 196 "TrainFerryModel" "taped" "I") (by decide +kernel)) (fun _ h9 => h9) rfl dX12_feed_103 ?_
  refine lv_iconst (v := 1) hx hb dX12_feed_106 (by decide) ?_
  refine lv_iadd hx hb dX12_feed_107 ?_
  refine lv_cst 18 (by decide) ?_
  refine va_put (D := D) (ci := 12) (v := .int 18) (ty := .int) (C := RX12) (T := TX12) (N := 55) hx hb hts iw_X12_feed_X12 tyX12 tyX12_ok nmX12 hown hKX.1 hP hD hS 0 rfl rfl 33 (by decide) (hts (.fieldLink RX12 196 "TrainFerryModel" "taped" "I") (by decide +kernel)) (fun _ h9 => h9) rfl (by decide +kernel) rfl rfl (Nat.le_of_ble_eq_true rfl) dX12_feed_108 (fun H locs hP hD hS => ?_)
  have hP : va_P D vwCl [(mh, .inr (12, [.int 0, .int 100, .int 200, .int 5, .int 100, .int 0, .int 0, .int 0, .int 0, .int 0, .int 0, .ref (mq 0), .int 0, .ref (mq 1), .ref (mq 2), .ref (mq 3), .ref (mq 4), .ref (mq 5), .ref (mq 6), .ref (mq 7), .ref (mq 8), .ref (mq 9), .ref (mq 10), .int 0, .ref (mq 11), .ref (mq 12), .ref (mq 13), .int 0, .ref (mq 14), .ref (mq 15), .ref (mq 16), .ref (mq 17), .ref (mq 18), .int 18, .int 0, .int 0, .int 0, .int 0, .int 0, .int 0, .int (-1), .ref (mq 19), .ref (mq 20), .ref (mq 21), .ref (mq 22), .ref (mq 23), .ref (mq 24), .int 0, .int 0, .int 0, .ref (mq 25), .ref (mq 26), .ref (mq 27), .ref (mq 28), .ref (mq 29)])), ((mq 18), .inl (cy 3, 300, .inl g36))] H := hP
  have hD : va_D A [(mh, .inr (12, [.int 0, .int 100, .int 200, .int 5, .int 100, .int 0, .int 0, .int 0, .int 0, .int 0, .int 0, .ref (mq 0), .int 0, .ref (mq 1), .ref (mq 2), .ref (mq 3), .ref (mq 4), .ref (mq 5), .ref (mq 6), .ref (mq 7), .ref (mq 8), .ref (mq 9), .ref (mq 10), .int 0, .ref (mq 11), .ref (mq 12), .ref (mq 13), .int 0, .ref (mq 14), .ref (mq 15), .ref (mq 16), .ref (mq 17), .ref (mq 18), .int 18, .int 0, .int 0, .int 0, .int 0, .int 0, .int 0, .int (-1), .ref (mq 19), .ref (mq 20), .ref (mq 21), .ref (mq 22), .ref (mq 23), .ref (mq 24), .int 0, .int 0, .int 0, .ref (mq 25), .ref (mq 26), .ref (mq 27), .ref (mq 28), .ref (mq 29)])), ((mq 18), .inl (cy 3, 300, .inl g36))] := hD
  refine lv_iinc (v := 18) (lv' := [(6, .int 18), (7, .int xe), (0, .ref mh), (1, .int xa), (2, .int xb), (3, .int xc), (4, .int xd), (5, .int xe)]) hx hb dX12_feed_111 hl (k := 1) rfl (by decide) (by decide) rfl (fun ls hl => ?_)
  refine lv_goto (tgt := 23) hx hb dX12_feed_114 (by decide) ?_
  refine lv_iload hx hb dX12_feed_23 (lv_at hl 0 rfl) ?_
  refine lv_bipush (v := 20) hx hb dX12_feed_25 (by decide) ?_
  refine lv_icmp_ge (tgt := 117) hx hb dX12_feed_27 (by decide) (fun c9 => absurd c9 (by decide)) (fun _ => ?_)
  refine lv_iload hx hb dX12_feed_30 (lv_at hl 0 rfl) ?_
  refine lv_iconst (v := 4) hx hb dX12_feed_32 (by decide) ?_
  refine lv_icmp_ge (tgt := 40) hx hb dX12_feed_33 (by decide) (fun _ => ?_) (fun c9 => absurd (by decide) c9)
  refine lv_iload hx hb dX12_feed_40 (lv_at hl 0 rfl) ?_
  refine lv_bipush (v := 8) hx hb dX12_feed_42 (by decide) ?_
  refine lv_icmp_ge (tgt := 51) hx hb dX12_feed_44 (by decide) (fun _ => ?_) (fun c9 => absurd (by decide) c9)
  refine lv_iload hx hb dX12_feed_51 (lv_at hl 0 rfl) ?_
  refine lv_bipush (v := 12) hx hb dX12_feed_53 (by decide) ?_
  refine lv_icmp_ge (tgt := 62) hx hb dX12_feed_55 (by decide) (fun _ => ?_) (fun c9 => absurd (by decide) c9)
  refine lv_iload hx hb dX12_feed_62 (lv_at hl 0 rfl) ?_
  refine lv_bipush (v := 16) hx hb dX12_feed_64 (by decide) ?_
  refine lv_icmp_ge (tgt := 74) hx hb dX12_feed_66 (by decide) (fun _ => ?_) (fun c9 => absurd (by decide) c9)
  refine lv_iload hx hb dX12_feed_74 (lv_at hl 7 rfl) ?_
  refine lv_istore (lv' := [(7, .int xe), (6, .int 18), (0, .ref mh), (1, .int xa), (2, .int xb), (3, .int xc), (4, .int xd), (5, .int xe)]) hx hb dX12_feed_76 hl (by decide) rfl (fun ls hl => ?_)
  refine lv_aload_n hx hb dX12_feed_78 rfl (lv_at hl 2 rfl) ?_
  refine va_get (D := D) (ci := 12) (v := .ref (mq 18)) (C := RX12) (T := TX12) (N := 55) hx hb hts iw_X12_feed_X12 hown hKX.1 hP 0 rfl rfl 32 (by decide) (hts (.fieldLink RX12 82 "TrainFerryModel" "tape" "[B") (by decide +kernel)) (fun _ h9 => h9) rfl dX12_feed_79 ?_
  refine lv_aload_n hx hb dX12_feed_82 rfl (lv_at hl 2 rfl) ?_
  refine va_get (D := D) (ci := 12) (v := .int 18) (C := RX12) (T := TX12) (N := 55) hx hb hts iw_X12_feed_X12 hown hKX.1 hP 0 rfl rfl 33 (by decide) (hts (.fieldLink RX12 196 "TrainFerryModel" "taped" "I") (by decide +kernel)) (fun _ h9 => h9) rfl dX12_feed_83 ?_
  refine lv_iload hx hb dX12_feed_86 (lv_at hl 0 rfl) ?_
  refine lv_bipush (v := 24) hx hb dX12_feed_88 (by decide) ?_
  refine lv_bipush (v := 8) hx hb dX12_feed_90 (by decide) ?_
  refine lv_iload hx hb dX12_feed_92 (lv_at hl 1 rfl) ?_
  refine lv_iconst (v := 4) hx hb dX12_feed_94 (by decide) ?_
  refine lv_irem hx hb dX12_feed_95 (by decide) ?_
  refine lv_cst 2 (by decide) ?_
  refine lv_imul hx hb dX12_feed_96 ?_
  refine lv_cst 16 (by decide) ?_
  refine lv_isub hx hb dX12_feed_97 ?_
  refine lv_cst 8 (by decide) ?_
  refine lv_ishr hx hb dX12_feed_98 ?_
  refine lv_i2b (v := _) hx hb dX12_feed_99 rfl ?_
  refine lv_topi (fun z37 _ => ?_)
  refine va_bast hx hb hKX.1 hP hD hS 1 3 rfl rfl (vind (by decide)) dX12_feed_100 (fun H locs hP hD hS => ?_)
  have hP : va_P D vwCl [(mh, .inr (12, [.int 0, .int 100, .int 200, .int 5, .int 100, .int 0, .int 0, .int 0, .int 0, .int 0, .int 0, .ref (mq 0), .int 0, .ref (mq 1), .ref (mq 2), .ref (mq 3), .ref (mq 4), .ref (mq 5), .ref (mq 6), .ref (mq 7), .ref (mq 8), .ref (mq 9), .ref (mq 10), .int 0, .ref (mq 11), .ref (mq 12), .ref (mq 13), .int 0, .ref (mq 14), .ref (mq 15), .ref (mq 16), .ref (mq 17), .ref (mq 18), .int 18, .int 0, .int 0, .int 0, .int 0, .int 0, .int 0, .int (-1), .ref (mq 19), .ref (mq 20), .ref (mq 21), .ref (mq 22), .ref (mq 23), .ref (mq 24), .int 0, .int 0, .int 0, .ref (mq 25), .ref (mq 26), .ref (mq 27), .ref (mq 28), .ref (mq 29)])), ((mq 18), .inl (cy 3, 300, .inl (upd g36 (Int32.toNatClampNeg 18) (vp_nar .byte z37))))] H := hP
  have hD : va_D A [(mh, .inr (12, [.int 0, .int 100, .int 200, .int 5, .int 100, .int 0, .int 0, .int 0, .int 0, .int 0, .int 0, .ref (mq 0), .int 0, .ref (mq 1), .ref (mq 2), .ref (mq 3), .ref (mq 4), .ref (mq 5), .ref (mq 6), .ref (mq 7), .ref (mq 8), .ref (mq 9), .ref (mq 10), .int 0, .ref (mq 11), .ref (mq 12), .ref (mq 13), .int 0, .ref (mq 14), .ref (mq 15), .ref (mq 16), .ref (mq 17), .ref (mq 18), .int 18, .int 0, .int 0, .int 0, .int 0, .int 0, .int 0, .int (-1), .ref (mq 19), .ref (mq 20), .ref (mq 21), .ref (mq 22), .ref (mq 23), .ref (mq 24), .int 0, .int 0, .int 0, .ref (mq 25), .ref (mq 26), .ref (mq 27), .ref (mq 28), .ref (mq 29)])), ((mq 18), .inl (cy 3, 300, .inl (upd g36 (Int32.toNatClampNeg 18) (vp_nar .byte z37))))] := hD
  generalize (upd g36 (Int32.toNatClampNeg 18) (vp_nar .byte z37) : Nat → Int32) = g38 at hP hD
  refine lv_aload_n hx hb dX12_feed_101 rfl (lv_at hl 2 rfl) ?_
  refine lv_dup hx hb dX12_feed_102 rfl ?_
  refine va_get (D := D) (ci := 12) (v := .int 18) (C := RX12) (T := TX12) (N := 55) hx hb hts iw_X12_feed_X12 hown hKX.1 hP 0 rfl rfl 33 (by decide) (hts (.fieldLink RX12 196 "TrainFerryModel" "taped" "I") (by decide +kernel)) (fun _ h9 => h9) rfl dX12_feed_103 ?_
  refine lv_iconst (v := 1) hx hb dX12_feed_106 (by decide) ?_
  refine lv_iadd hx hb dX12_feed_107 ?_
  refine lv_cst 19 (by decide) ?_
  refine va_put (D := D) (ci := 12) (v := .int 19) (ty := .int) (C := RX12) (T := TX12) (N := 55) hx hb hts iw_X12_feed_X12 tyX12 tyX12_ok nmX12 hown hKX.1 hP hD hS 0 rfl rfl 33 (by decide) (hts (.fieldLink RX12 196 "TrainFerryModel" "taped" "I") (by decide +kernel)) (fun _ h9 => h9) rfl (by decide +kernel) rfl rfl (Nat.le_of_ble_eq_true rfl) dX12_feed_108 (fun H locs hP hD hS => ?_)
  have hP : va_P D vwCl [(mh, .inr (12, [.int 0, .int 100, .int 200, .int 5, .int 100, .int 0, .int 0, .int 0, .int 0, .int 0, .int 0, .ref (mq 0), .int 0, .ref (mq 1), .ref (mq 2), .ref (mq 3), .ref (mq 4), .ref (mq 5), .ref (mq 6), .ref (mq 7), .ref (mq 8), .ref (mq 9), .ref (mq 10), .int 0, .ref (mq 11), .ref (mq 12), .ref (mq 13), .int 0, .ref (mq 14), .ref (mq 15), .ref (mq 16), .ref (mq 17), .ref (mq 18), .int 19, .int 0, .int 0, .int 0, .int 0, .int 0, .int 0, .int (-1), .ref (mq 19), .ref (mq 20), .ref (mq 21), .ref (mq 22), .ref (mq 23), .ref (mq 24), .int 0, .int 0, .int 0, .ref (mq 25), .ref (mq 26), .ref (mq 27), .ref (mq 28), .ref (mq 29)])), ((mq 18), .inl (cy 3, 300, .inl g38))] H := hP
  have hD : va_D A [(mh, .inr (12, [.int 0, .int 100, .int 200, .int 5, .int 100, .int 0, .int 0, .int 0, .int 0, .int 0, .int 0, .ref (mq 0), .int 0, .ref (mq 1), .ref (mq 2), .ref (mq 3), .ref (mq 4), .ref (mq 5), .ref (mq 6), .ref (mq 7), .ref (mq 8), .ref (mq 9), .ref (mq 10), .int 0, .ref (mq 11), .ref (mq 12), .ref (mq 13), .int 0, .ref (mq 14), .ref (mq 15), .ref (mq 16), .ref (mq 17), .ref (mq 18), .int 19, .int 0, .int 0, .int 0, .int 0, .int 0, .int 0, .int (-1), .ref (mq 19), .ref (mq 20), .ref (mq 21), .ref (mq 22), .ref (mq 23), .ref (mq 24), .int 0, .int 0, .int 0, .ref (mq 25), .ref (mq 26), .ref (mq 27), .ref (mq 28), .ref (mq 29)])), ((mq 18), .inl (cy 3, 300, .inl g38))] := hD
  refine lv_iinc (v := 19) (lv' := [(6, .int 19), (7, .int xe), (0, .ref mh), (1, .int xa), (2, .int xb), (3, .int xc), (4, .int xd), (5, .int xe)]) hx hb dX12_feed_111 hl (k := 1) rfl (by decide) (by decide) rfl (fun ls hl => ?_)
  refine lv_goto (tgt := 23) hx hb dX12_feed_114 (by decide) ?_
  refine lv_iload hx hb dX12_feed_23 (lv_at hl 0 rfl) ?_
  refine lv_bipush (v := 20) hx hb dX12_feed_25 (by decide) ?_
  refine lv_icmp_ge (tgt := 117) hx hb dX12_feed_27 (by decide) (fun c9 => absurd c9 (by decide)) (fun _ => ?_)
  refine lv_iload hx hb dX12_feed_30 (lv_at hl 0 rfl) ?_
  refine lv_iconst (v := 4) hx hb dX12_feed_32 (by decide) ?_
  refine lv_icmp_ge (tgt := 40) hx hb dX12_feed_33 (by decide) (fun _ => ?_) (fun c9 => absurd (by decide) c9)
  refine lv_iload hx hb dX12_feed_40 (lv_at hl 0 rfl) ?_
  refine lv_bipush (v := 8) hx hb dX12_feed_42 (by decide) ?_
  refine lv_icmp_ge (tgt := 51) hx hb dX12_feed_44 (by decide) (fun _ => ?_) (fun c9 => absurd (by decide) c9)
  refine lv_iload hx hb dX12_feed_51 (lv_at hl 0 rfl) ?_
  refine lv_bipush (v := 12) hx hb dX12_feed_53 (by decide) ?_
  refine lv_icmp_ge (tgt := 62) hx hb dX12_feed_55 (by decide) (fun _ => ?_) (fun c9 => absurd (by decide) c9)
  refine lv_iload hx hb dX12_feed_62 (lv_at hl 0 rfl) ?_
  refine lv_bipush (v := 16) hx hb dX12_feed_64 (by decide) ?_
  refine lv_icmp_ge (tgt := 74) hx hb dX12_feed_66 (by decide) (fun _ => ?_) (fun c9 => absurd (by decide) c9)
  refine lv_iload hx hb dX12_feed_74 (lv_at hl 7 rfl) ?_
  refine lv_istore (lv' := [(7, .int xe), (6, .int 19), (0, .ref mh), (1, .int xa), (2, .int xb), (3, .int xc), (4, .int xd), (5, .int xe)]) hx hb dX12_feed_76 hl (by decide) rfl (fun ls hl => ?_)
  refine lv_aload_n hx hb dX12_feed_78 rfl (lv_at hl 2 rfl) ?_
  refine va_get (D := D) (ci := 12) (v := .ref (mq 18)) (C := RX12) (T := TX12) (N := 55) hx hb hts iw_X12_feed_X12 hown hKX.1 hP 0 rfl rfl 32 (by decide) (hts (.fieldLink RX12 82 "TrainFerryModel" "tape" "[B") (by decide +kernel)) (fun _ h9 => h9) rfl dX12_feed_79 ?_
  refine lv_aload_n hx hb dX12_feed_82 rfl (lv_at hl 2 rfl) ?_
  refine va_get (D := D) (ci := 12) (v := .int 19) (C := RX12) (T := TX12) (N := 55) hx hb hts iw_X12_feed_X12 hown hKX.1 hP 0 rfl rfl 33 (by decide) (hts (.fieldLink RX12 196 "TrainFerryModel" "taped" "I") (by decide +kernel)) (fun _ h9 => h9) rfl dX12_feed_83 ?_
  refine lv_iload hx hb dX12_feed_86 (lv_at hl 0 rfl) ?_
  refine lv_bipush (v := 24) hx hb dX12_feed_88 (by decide) ?_
  refine lv_bipush (v := 8) hx hb dX12_feed_90 (by decide) ?_
  refine lv_iload hx hb dX12_feed_92 (lv_at hl 1 rfl) ?_
  refine lv_iconst (v := 4) hx hb dX12_feed_94 (by decide) ?_
  refine lv_irem hx hb dX12_feed_95 (by decide) ?_
  refine lv_cst 3 (by decide) ?_
  refine lv_imul hx hb dX12_feed_96 ?_
  refine lv_cst 24 (by decide) ?_
  refine lv_isub hx hb dX12_feed_97 ?_
  refine lv_cst 0 (by decide) ?_
  refine lv_ishr hx hb dX12_feed_98 ?_
  refine lv_i2b (v := _) hx hb dX12_feed_99 rfl ?_
  refine lv_topi (fun z39 _ => ?_)
  refine va_bast hx hb hKX.1 hP hD hS 1 3 rfl rfl (vind (by decide)) dX12_feed_100 (fun H locs hP hD hS => ?_)
  have hP : va_P D vwCl [(mh, .inr (12, [.int 0, .int 100, .int 200, .int 5, .int 100, .int 0, .int 0, .int 0, .int 0, .int 0, .int 0, .ref (mq 0), .int 0, .ref (mq 1), .ref (mq 2), .ref (mq 3), .ref (mq 4), .ref (mq 5), .ref (mq 6), .ref (mq 7), .ref (mq 8), .ref (mq 9), .ref (mq 10), .int 0, .ref (mq 11), .ref (mq 12), .ref (mq 13), .int 0, .ref (mq 14), .ref (mq 15), .ref (mq 16), .ref (mq 17), .ref (mq 18), .int 19, .int 0, .int 0, .int 0, .int 0, .int 0, .int 0, .int (-1), .ref (mq 19), .ref (mq 20), .ref (mq 21), .ref (mq 22), .ref (mq 23), .ref (mq 24), .int 0, .int 0, .int 0, .ref (mq 25), .ref (mq 26), .ref (mq 27), .ref (mq 28), .ref (mq 29)])), ((mq 18), .inl (cy 3, 300, .inl (upd g38 (Int32.toNatClampNeg 19) (vp_nar .byte z39))))] H := hP
  have hD : va_D A [(mh, .inr (12, [.int 0, .int 100, .int 200, .int 5, .int 100, .int 0, .int 0, .int 0, .int 0, .int 0, .int 0, .ref (mq 0), .int 0, .ref (mq 1), .ref (mq 2), .ref (mq 3), .ref (mq 4), .ref (mq 5), .ref (mq 6), .ref (mq 7), .ref (mq 8), .ref (mq 9), .ref (mq 10), .int 0, .ref (mq 11), .ref (mq 12), .ref (mq 13), .int 0, .ref (mq 14), .ref (mq 15), .ref (mq 16), .ref (mq 17), .ref (mq 18), .int 19, .int 0, .int 0, .int 0, .int 0, .int 0, .int 0, .int (-1), .ref (mq 19), .ref (mq 20), .ref (mq 21), .ref (mq 22), .ref (mq 23), .ref (mq 24), .int 0, .int 0, .int 0, .ref (mq 25), .ref (mq 26), .ref (mq 27), .ref (mq 28), .ref (mq 29)])), ((mq 18), .inl (cy 3, 300, .inl (upd g38 (Int32.toNatClampNeg 19) (vp_nar .byte z39))))] := hD
  generalize (upd g38 (Int32.toNatClampNeg 19) (vp_nar .byte z39) : Nat → Int32) = g40 at hP hD
  refine lv_aload_n hx hb dX12_feed_101 rfl (lv_at hl 2 rfl) ?_
  refine lv_dup hx hb dX12_feed_102 rfl ?_
  refine va_get (D := D) (ci := 12) (v := .int 19) (C := RX12) (T := TX12) (N := 55) hx hb hts iw_X12_feed_X12 hown hKX.1 hP 0 rfl rfl 33 (by decide) (hts (.fieldLink RX12 196 "TrainFerryModel" "taped" "I") (by decide +kernel)) (fun _ h9 => h9) rfl dX12_feed_103 ?_
  refine lv_iconst (v := 1) hx hb dX12_feed_106 (by decide) ?_
  refine lv_iadd hx hb dX12_feed_107 ?_
  refine lv_cst 20 (by decide) ?_
  refine va_put (D := D) (ci := 12) (v := .int 20) (ty := .int) (C := RX12) (T := TX12) (N := 55) hx hb hts iw_X12_feed_X12 tyX12 tyX12_ok nmX12 hown hKX.1 hP hD hS 0 rfl rfl 33 (by decide) (hts (.fieldLink RX12 196 "TrainFerryModel" "taped" "I") (by decide +kernel)) (fun _ h9 => h9) rfl (by decide +kernel) rfl rfl (Nat.le_of_ble_eq_true rfl) dX12_feed_108 (fun H locs hP hD hS => ?_)
  have hP : va_P D vwCl [(mh, .inr (12, [.int 0, .int 100, .int 200, .int 5, .int 100, .int 0, .int 0, .int 0, .int 0, .int 0, .int 0, .ref (mq 0), .int 0, .ref (mq 1), .ref (mq 2), .ref (mq 3), .ref (mq 4), .ref (mq 5), .ref (mq 6), .ref (mq 7), .ref (mq 8), .ref (mq 9), .ref (mq 10), .int 0, .ref (mq 11), .ref (mq 12), .ref (mq 13), .int 0, .ref (mq 14), .ref (mq 15), .ref (mq 16), .ref (mq 17), .ref (mq 18), .int 20, .int 0, .int 0, .int 0, .int 0, .int 0, .int 0, .int (-1), .ref (mq 19), .ref (mq 20), .ref (mq 21), .ref (mq 22), .ref (mq 23), .ref (mq 24), .int 0, .int 0, .int 0, .ref (mq 25), .ref (mq 26), .ref (mq 27), .ref (mq 28), .ref (mq 29)])), ((mq 18), .inl (cy 3, 300, .inl g40))] H := hP
  have hD : va_D A [(mh, .inr (12, [.int 0, .int 100, .int 200, .int 5, .int 100, .int 0, .int 0, .int 0, .int 0, .int 0, .int 0, .ref (mq 0), .int 0, .ref (mq 1), .ref (mq 2), .ref (mq 3), .ref (mq 4), .ref (mq 5), .ref (mq 6), .ref (mq 7), .ref (mq 8), .ref (mq 9), .ref (mq 10), .int 0, .ref (mq 11), .ref (mq 12), .ref (mq 13), .int 0, .ref (mq 14), .ref (mq 15), .ref (mq 16), .ref (mq 17), .ref (mq 18), .int 20, .int 0, .int 0, .int 0, .int 0, .int 0, .int 0, .int (-1), .ref (mq 19), .ref (mq 20), .ref (mq 21), .ref (mq 22), .ref (mq 23), .ref (mq 24), .int 0, .int 0, .int 0, .ref (mq 25), .ref (mq 26), .ref (mq 27), .ref (mq 28), .ref (mq 29)])), ((mq 18), .inl (cy 3, 300, .inl g40))] := hD
  refine lv_iinc (v := 20) (lv' := [(6, .int 20), (7, .int xe), (0, .ref mh), (1, .int xa), (2, .int xb), (3, .int xc), (4, .int xd), (5, .int xe)]) hx hb dX12_feed_111 hl (k := 1) rfl (by decide) (by decide) rfl (fun ls hl => ?_)
  refine lv_goto (tgt := 23) hx hb dX12_feed_114 (by decide) ?_
  refine lv_iload hx hb dX12_feed_23 (lv_at hl 0 rfl) ?_
  refine lv_bipush (v := 20) hx hb dX12_feed_25 (by decide) ?_
  refine lv_icmp_ge (tgt := 117) hx hb dX12_feed_27 (by decide) (fun _ => ?_) (fun c9 => absurd (by decide) c9)
  refine lv_aload_n hx hb dX12_feed_117 rfl (lv_at hl 2 rfl) ?_
  refine va_get (D := D) (ci := 12) (v := .int 20) (C := RX12) (T := TX12) (N := 55) hx hb hts iw_X12_feed_X12 hown hKX.1 hP 0 rfl rfl 33 (by decide) (hts (.fieldLink RX12 196 "TrainFerryModel" "taped" "I") (by decide +kernel)) (fun _ h9 => h9) rfl dX12_feed_118 ?_
  exact en_i hx hb hr hlocks () rfl trivial (hP.sub [] rfl) (hD.sub [] (by decide) rfl) hS (Nat.le_of_ble_eq_true rfl) (Nat.le_of_ble_eq_true rfl) dX12_feed_121
