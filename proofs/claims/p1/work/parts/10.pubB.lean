theorem iw_X9_addBytesOf_X9 : ∀ w ∈ wsX90, w ∈ wsX9_addBytesOf := by decide +kernel
set_option maxHeartbeats 4000000 in
set_option maxRecDepth 100000 in
theorem c_addBytes_0 (l : Launch) (D : va_G) (cy : Nat → ClassId) (h : Nat) (b : Nat) (f : Nat → Int32) (n : Int32) (sz : Nat) : Met l yX9_addBytesOf wsX9_addBytesOf ({ frames := 0, cells := 0, slots := 0, locals := 0 }) (wPre D cy [.ref h, .int n] sz [(h, .inr (9, [.ref b, .int 0])), (b, .inl (cy 0, 300, .inl f))]) (wQv D (fun _ : (Nat → Int32) => True) (fun u : (Nat → Int32) => [(h, .inr (9, [.ref b, .int 4])), (b, .inl (cy 0, 300, .inl u))]) (va_A [(h, .inr (9, [.ref b, .int 0])), (b, .inl (cy 0, 300, .inl f))] sz)) 0 0 (va_A [(h, .inr (9, [.ref b, .int 0])), (b, .inl (cy 0, 300, .inl f))] sz) := by
  refine met_go (y := yX9_addBytesOf) (ws := wsX9_addBytesOf) (av := [.ref h, .int n]) (cc := cX9_addBytesOf) (maxL := 3) (ret := none) (Qc := fun A => wQv D (fun _ : (Nat → Int32) => True) (fun u : (Nat → Int32) => [(h, .inr (9, [.ref b, .int 4])), (b, .inl (cy 0, 300, .inl u))]) A) (by decide) rfl (Nat.le_of_ble_eq_true rfl) ?_
  intro p e s m below meth c ls A hx hb hr hml hown hts hlocks hname hKX hP hD hA hS hl
  have hown : s.vm.findClass RX9 = some m.cls := hown
  have hl : lv_has ls 3 [(0, .ref h), (1, .int n)] := hl
  refine lv_bipush (v := 24) hx hb dX9_addBytesOf_0 (by decide) ?_
  refine lv_istore_n (lv' := [(2, .int 24), (0, .ref h), (1, .int n)]) hx hb dX9_addBytesOf_2 rfl hl (by decide) rfl (fun ls hl => ?_)
  refine lv_iload_n hx hb dX9_addBytesOf_3 rfl (lv_at hl 0 rfl) ?_
  refine lv_if_lt (tgt := 49) hx hb dX9_addBytesOf_4 (by decide) (fun c9 => absurd c9 (by decide)) (fun _ => ?_)
  refine lv_aload_n hx hb dX9_addBytesOf_7 rfl (lv_at hl 1 rfl) ?_
  refine va_get (D := D) (ci := 9) (v := .int 0) (C := RX9) (T := TX9) (N := 2) hx hb hts iw_X9_addBytesOf_X9 hown hKX.1 hP 0 rfl rfl 1 (by decide) (hts (.fieldLink RX9 15 "TrainFerry$Tape" "size" "I") (by decide +kernel)) (fun _ h9 => h9) rfl dX9_addBytesOf_8 ?_
  refine lv_sipush (v := 300) hx hb dX9_addBytesOf_11 (by decide) ?_
  refine lv_icmp_ge (tgt := 49) hx hb dX9_addBytesOf_14 (by decide) (fun c9 => absurd c9 (by decide)) (fun _ => ?_)
  refine lv_aload_n hx hb dX9_addBytesOf_17 rfl (lv_at hl 1 rfl) ?_
  refine va_get (D := D) (ci := 9) (v := .ref b) (C := RX9) (T := TX9) (N := 2) hx hb hts iw_X9_addBytesOf_X9 hown hKX.1 hP 0 rfl rfl 0 (by decide) (hts (.fieldLink RX9 9 "TrainFerry$Tape" "bytes" "[I") (by decide +kernel)) (fun _ h9 => h9) rfl dX9_addBytesOf_18 ?_
  refine lv_aload_n hx hb dX9_addBytesOf_21 rfl (lv_at hl 1 rfl) ?_
  refine va_get (D := D) (ci := 9) (v := .int 0) (C := RX9) (T := TX9) (N := 2) hx hb hts iw_X9_addBytesOf_X9 hown hKX.1 hP 0 rfl rfl 1 (by decide) (hts (.fieldLink RX9 15 "TrainFerry$Tape" "size" "I") (by decide +kernel)) (fun _ h9 => h9) rfl dX9_addBytesOf_22 ?_
  refine lv_iload_n hx hb dX9_addBytesOf_25 rfl (lv_at hl 2 rfl) ?_
  refine lv_iload_n hx hb dX9_addBytesOf_26 rfl (lv_at hl 0 rfl) ?_
  refine lv_iushr (v := _) hx hb dX9_addBytesOf_27 rfl ?_
  refine lv_topi (fun z1 _ => ?_)
  refine lv_sipush (v := 255) hx hb dX9_addBytesOf_28 (by decide) ?_
  refine lv_iand hx hb dX9_addBytesOf_31 ?_
  refine va_iast hx hb hKX.1 hP hD hS 1 0 rfl rfl (vind (by decide)) dX9_addBytesOf_32 (fun H locs hP hD hS => ?_)
  have hP : va_P D vwCl [(h, .inr (9, [.ref b, .int 0])), (b, .inl (cy 0, 300, .inl (upd f (Int32.toNatClampNeg 0) (z1 &&& 255))))] H := hP
  have hD : va_D A [(h, .inr (9, [.ref b, .int 0])), (b, .inl (cy 0, 300, .inl (upd f (Int32.toNatClampNeg 0) (z1 &&& 255))))] := hD
  generalize (upd f (Int32.toNatClampNeg 0) (z1 &&& 255) : Nat → Int32) = g2 at hP hD
  refine lv_aload_n hx hb dX9_addBytesOf_33 rfl (lv_at hl 1 rfl) ?_
  refine lv_dup hx hb dX9_addBytesOf_34 rfl ?_
  refine va_get (D := D) (ci := 9) (v := .int 0) (C := RX9) (T := TX9) (N := 2) hx hb hts iw_X9_addBytesOf_X9 hown hKX.1 hP 0 rfl rfl 1 (by decide) (hts (.fieldLink RX9 15 "TrainFerry$Tape" "size" "I") (by decide +kernel)) (fun _ h9 => h9) rfl dX9_addBytesOf_35 ?_
  refine lv_iconst (v := 1) hx hb dX9_addBytesOf_38 (by decide) ?_
  refine lv_iadd hx hb dX9_addBytesOf_39 ?_
  refine lv_cst 1 (by decide) ?_
  refine va_put (D := D) (ci := 9) (v := .int 1) (ty := .int) (C := RX9) (T := TX9) (N := 2) hx hb hts iw_X9_addBytesOf_X9 tyX9 tyX9_ok nmX9 hown hKX.1 hP hD hS 0 rfl rfl 1 (by decide) (hts (.fieldLink RX9 15 "TrainFerry$Tape" "size" "I") (by decide +kernel)) (fun _ h9 => h9) rfl (by decide +kernel) rfl rfl (Nat.le_of_ble_eq_true rfl) dX9_addBytesOf_40 (fun H locs hP hD hS => ?_)
  have hP : va_P D vwCl [(h, .inr (9, [.ref b, .int 1])), (b, .inl (cy 0, 300, .inl g2))] H := hP
  have hD : va_D A [(h, .inr (9, [.ref b, .int 1])), (b, .inl (cy 0, 300, .inl g2))] := hD
  refine lv_iinc (v := 16) (lv' := [(2, .int 16), (0, .ref h), (1, .int n)]) hx hb dX9_addBytesOf_43 hl (k := 0) rfl (by decide) (by decide) rfl (fun ls hl => ?_)
  refine lv_goto (tgt := 3) hx hb dX9_addBytesOf_46 (by decide) ?_
  refine lv_iload_n hx hb dX9_addBytesOf_3 rfl (lv_at hl 0 rfl) ?_
  refine lv_if_lt (tgt := 49) hx hb dX9_addBytesOf_4 (by decide) (fun c9 => absurd c9 (by decide)) (fun _ => ?_)
  refine lv_aload_n hx hb dX9_addBytesOf_7 rfl (lv_at hl 1 rfl) ?_
  refine va_get (D := D) (ci := 9) (v := .int 1) (C := RX9) (T := TX9) (N := 2) hx hb hts iw_X9_addBytesOf_X9 hown hKX.1 hP 0 rfl rfl 1 (by decide) (hts (.fieldLink RX9 15 "TrainFerry$Tape" "size" "I") (by decide +kernel)) (fun _ h9 => h9) rfl dX9_addBytesOf_8 ?_
  refine lv_sipush (v := 300) hx hb dX9_addBytesOf_11 (by decide) ?_
  refine lv_icmp_ge (tgt := 49) hx hb dX9_addBytesOf_14 (by decide) (fun c9 => absurd c9 (by decide)) (fun _ => ?_)
  refine lv_aload_n hx hb dX9_addBytesOf_17 rfl (lv_at hl 1 rfl) ?_
  refine va_get (D := D) (ci := 9) (v := .ref b) (C := RX9) (T := TX9) (N := 2) hx hb hts iw_X9_addBytesOf_X9 hown hKX.1 hP 0 rfl rfl 0 (by decide) (hts (.fieldLink RX9 9 "TrainFerry$Tape" "bytes" "[I") (by decide +kernel)) (fun _ h9 => h9) rfl dX9_addBytesOf_18 ?_
  refine lv_aload_n hx hb dX9_addBytesOf_21 rfl (lv_at hl 1 rfl) ?_
  refine va_get (D := D) (ci := 9) (v := .int 1) (C := RX9) (T := TX9) (N := 2) hx hb hts iw_X9_addBytesOf_X9 hown hKX.1 hP 0 rfl rfl 1 (by decide) (hts (.fieldLink RX9 15 "TrainFerry$Tape" "size" "I") (by decide +kernel)) (fun _ h9 => h9) rfl dX9_addBytesOf_22 ?_
  refine lv_iload_n hx hb dX9_addBytesOf_25 rfl (lv_at hl 2 rfl) ?_
  refine lv_iload_n hx hb dX9_addBytesOf_26 rfl (lv_at hl 0 rfl) ?_
  refine lv_iushr (v := _) hx hb dX9_addBytesOf_27 rfl ?_
  refine lv_topi (fun z3 _ => ?_)
  refine lv_sipush (v := 255) hx hb dX9_addBytesOf_28 (by decide) ?_
  refine lv_iand hx hb dX9_addBytesOf_31 ?_
  refine va_iast hx hb hKX.1 hP hD hS 1 0 rfl rfl (vind (by decide)) dX9_addBytesOf_32 (fun H locs hP hD hS => ?_)
  have hP : va_P D vwCl [(h, .inr (9, [.ref b, .int 1])), (b, .inl (cy 0, 300, .inl (upd g2 (Int32.toNatClampNeg 1) (z3 &&& 255))))] H := hP
  have hD : va_D A [(h, .inr (9, [.ref b, .int 1])), (b, .inl (cy 0, 300, .inl (upd g2 (Int32.toNatClampNeg 1) (z3 &&& 255))))] := hD
  generalize (upd g2 (Int32.toNatClampNeg 1) (z3 &&& 255) : Nat → Int32) = g4 at hP hD
  refine lv_aload_n hx hb dX9_addBytesOf_33 rfl (lv_at hl 1 rfl) ?_
  refine lv_dup hx hb dX9_addBytesOf_34 rfl ?_
  refine va_get (D := D) (ci := 9) (v := .int 1) (C := RX9) (T := TX9) (N := 2) hx hb hts iw_X9_addBytesOf_X9 hown hKX.1 hP 0 rfl rfl 1 (by decide) (hts (.fieldLink RX9 15 "TrainFerry$Tape" "size" "I") (by decide +kernel)) (fun _ h9 => h9) rfl dX9_addBytesOf_35 ?_
  refine lv_iconst (v := 1) hx hb dX9_addBytesOf_38 (by decide) ?_
  refine lv_iadd hx hb dX9_addBytesOf_39 ?_
  refine lv_cst 2 (by decide) ?_
  refine va_put (D := D) (ci := 9) (v := .int 2) (ty := .int) (C := RX9) (T := TX9) (N := 2) hx hb hts iw_X9_addBytesOf_X9 tyX9 tyX9_ok nmX9 hown hKX.1 hP hD hS 0 rfl rfl 1 (by decide) (hts (.fieldLink RX9 15 "TrainFerry$Tape" "size" "I") (by decide +kernel)) (fun _ h9 => h9) rfl (by decide +kernel) rfl rfl (Nat.le_of_ble_eq_true rfl) dX9_addBytesOf_40 (fun H locs hP hD hS => ?_)
  have hP : va_P D vwCl [(h, .inr (9, [.ref b, .int 2])), (b, .inl (cy 0, 300, .inl g4))] H := hP
  have hD : va_D A [(h, .inr (9, [.ref b, .int 2])), (b, .inl (cy 0, 300, .inl g4))] := hD
  refine lv_iinc (v := 8) (lv' := [(2, .int 8), (0, .ref h), (1, .int n)]) hx hb dX9_addBytesOf_43 hl (k := 0) rfl (by decide) (by decide) rfl (fun ls hl => ?_)
  refine lv_goto (tgt := 3) hx hb dX9_addBytesOf_46 (by decide) ?_
  refine lv_iload_n hx hb dX9_addBytesOf_3 rfl (lv_at hl 0 rfl) ?_
  refine lv_if_lt (tgt := 49) hx hb dX9_addBytesOf_4 (by decide) (fun c9 => absurd c9 (by decide)) (fun _ => ?_)
  refine lv_aload_n hx hb dX9_addBytesOf_7 rfl (lv_at hl 1 rfl) ?_
  refine va_get (D := D) (ci := 9) (v := .int 2) (C := RX9) (T := TX9) (N := 2) hx hb hts iw_X9_addBytesOf_X9 hown hKX.1 hP 0 rfl rfl 1 (by decide) (hts (.fieldLink RX9 15 "TrainFerry$Tape" "size" "I") (by decide +kernel)) (fun _ h9 => h9) rfl dX9_addBytesOf_8 ?_
  refine lv_sipush (v := 300) hx hb dX9_addBytesOf_11 (by decide) ?_
  refine lv_icmp_ge (tgt := 49) hx hb dX9_addBytesOf_14 (by decide) (fun c9 => absurd c9 (by decide)) (fun _ => ?_)
  refine lv_aload_n hx hb dX9_addBytesOf_17 rfl (lv_at hl 1 rfl) ?_
  refine va_get (D := D) (ci := 9) (v := .ref b) (C := RX9) (T := TX9) (N := 2) hx hb hts iw_X9_addBytesOf_X9 hown hKX.1 hP 0 rfl rfl 0 (by decide) (hts (.fieldLink RX9 9 "TrainFerry$Tape" "bytes" "[I") (by decide +kernel)) (fun _ h9 => h9) rfl dX9_addBytesOf_18 ?_
  refine lv_aload_n hx hb dX9_addBytesOf_21 rfl (lv_at hl 1 rfl) ?_
  refine va_get (D := D) (ci := 9) (v := .int 2) (C := RX9) (T := TX9) (N := 2) hx hb hts iw_X9_addBytesOf_X9 hown hKX.1 hP 0 rfl rfl 1 (by decide) (hts (.fieldLink RX9 15 "TrainFerry$Tape" "size" "I") (by decide +kernel)) (fun _ h9 => h9) rfl dX9_addBytesOf_22 ?_
  refine lv_iload_n hx hb dX9_addBytesOf_25 rfl (lv_at hl 2 rfl) ?_
  refine lv_iload_n hx hb dX9_addBytesOf_26 rfl (lv_at hl 0 rfl) ?_
  refine lv_iushr (v := _) hx hb dX9_addBytesOf_27 rfl ?_
  refine lv_topi (fun z5 _ => ?_)
  refine lv_sipush (v := 255) hx hb dX9_addBytesOf_28 (by decide) ?_
  refine lv_iand hx hb dX9_addBytesOf_31 ?_
  refine va_iast hx hb hKX.1 hP hD hS 1 0 rfl rfl (vind (by decide)) dX9_addBytesOf_32 (fun H locs hP hD hS => ?_)
  have hP : va_P D vwCl [(h, .inr (9, [.ref b, .int 2])), (b, .inl (cy 0, 300, .inl (upd g4 (Int32.toNatClampNeg 2) (z5 &&& 255))))] H := hP
  have hD : va_D A [(h, .inr (9, [.ref b, .int 2])), (b, .inl (cy 0, 300, .inl (upd g4 (Int32.toNatClampNeg 2) (z5 &&& 255))))] := hD
  generalize (upd g4 (Int32.toNatClampNeg 2) (z5 &&& 255) : Nat → Int32) = g6 at hP hD
  refine lv_aload_n hx hb dX9_addBytesOf_33 rfl (lv_at hl 1 rfl) ?_
  refine lv_dup hx hb dX9_addBytesOf_34 rfl ?_
  refine va_get (D := D) (ci := 9) (v := .int 2) (C := RX9) (T := TX9) (N := 2) hx hb hts iw_X9_addBytesOf_X9 hown hKX.1 hP 0 rfl rfl 1 (by decide) (hts (.fieldLink RX9 15 "TrainFerry$Tape" "size" "I") (by decide +kernel)) (fun _ h9 => h9) rfl dX9_addBytesOf_35 ?_
  refine lv_iconst (v := 1) hx hb dX9_addBytesOf_38 (by decide) ?_
  refine lv_iadd hx hb dX9_addBytesOf_39 ?_
  refine lv_cst 3 (by decide) ?_
  refine va_put (D := D) (ci := 9) (v := .int 3) (ty := .int) (C := RX9) (T := TX9) (N := 2) hx hb hts iw_X9_addBytesOf_X9 tyX9 tyX9_ok nmX9 hown hKX.1 hP hD hS 0 rfl rfl 1 (by decide) (hts (.fieldLink RX9 15 "TrainFerry$Tape" "size" "I") (by decide +kernel)) (fun _ h9 => h9) rfl (by decide +kernel) rfl rfl (Nat.le_of_ble_eq_true rfl) dX9_addBytesOf_40 (fun H locs hP hD hS => ?_)
  have hP : va_P D vwCl [(h, .inr (9, [.ref b, .int 3])), (b, .inl (cy 0, 300, .inl g6))] H := hP
  have hD : va_D A [(h, .inr (9, [.ref b, .int 3])), (b, .inl (cy 0, 300, .inl g6))] := hD
  refine lv_iinc (v := 0) (lv' := [(2, .int 0), (0, .ref h), (1, .int n)]) hx hb dX9_addBytesOf_43 hl (k := 0) rfl (by decide) (by decide) rfl (fun ls hl => ?_)
  refine lv_goto (tgt := 3) hx hb dX9_addBytesOf_46 (by decide) ?_
  refine lv_iload_n hx hb dX9_addBytesOf_3 rfl (lv_at hl 0 rfl) ?_
  refine lv_if_lt (tgt := 49) hx hb dX9_addBytesOf_4 (by decide) (fun c9 => absurd c9 (by decide)) (fun _ => ?_)
  refine lv_aload_n hx hb dX9_addBytesOf_7 rfl (lv_at hl 1 rfl) ?_
  refine va_get (D := D) (ci := 9) (v := .int 3) (C := RX9) (T := TX9) (N := 2) hx hb hts iw_X9_addBytesOf_X9 hown hKX.1 hP 0 rfl rfl 1 (by decide) (hts (.fieldLink RX9 15 "TrainFerry$Tape" "size" "I") (by decide +kernel)) (fun _ h9 => h9) rfl dX9_addBytesOf_8 ?_
  refine lv_sipush (v := 300) hx hb dX9_addBytesOf_11 (by decide) ?_
  refine lv_icmp_ge (tgt := 49) hx hb dX9_addBytesOf_14 (by decide) (fun c9 => absurd c9 (by decide)) (fun _ => ?_)
  refine lv_aload_n hx hb dX9_addBytesOf_17 rfl (lv_at hl 1 rfl) ?_
  refine va_get (D := D) (ci := 9) (v := .ref b) (C := RX9) (T := TX9) (N := 2) hx hb hts iw_X9_addBytesOf_X9 hown hKX.1 hP 0 rfl rfl 0 (by decide) (hts (.fieldLink RX9 9 "TrainFerry$Tape" "bytes" "[I") (by decide +kernel)) (fun _ h9 => h9) rfl dX9_addBytesOf_18 ?_
  refine lv_aload_n hx hb dX9_addBytesOf_21 rfl (lv_at hl 1 rfl) ?_
  refine va_get (D := D) (ci := 9) (v := .int 3) (C := RX9) (T := TX9) (N := 2) hx hb hts iw_X9_addBytesOf_X9 hown hKX.1 hP 0 rfl rfl 1 (by decide) (hts (.fieldLink RX9 15 "TrainFerry$Tape" "size" "I") (by decide +kernel)) (fun _ h9 => h9) rfl dX9_addBytesOf_22 ?_
  refine lv_iload_n hx hb dX9_addBytesOf_25 rfl (lv_at hl 2 rfl) ?_
  refine lv_iload_n hx hb dX9_addBytesOf_26 rfl (lv_at hl 0 rfl) ?_
  refine lv_iushr (v := _) hx hb dX9_addBytesOf_27 rfl ?_
  refine lv_topi (fun z7 _ => ?_)
  refine lv_sipush (v := 255) hx hb dX9_addBytesOf_28 (by decide) ?_
  refine lv_iand hx hb dX9_addBytesOf_31 ?_
  refine va_iast hx hb hKX.1 hP hD hS 1 0 rfl rfl (vind (by decide)) dX9_addBytesOf_32 (fun H locs hP hD hS => ?_)
  have hP : va_P D vwCl [(h, .inr (9, [.ref b, .int 3])), (b, .inl (cy 0, 300, .inl (upd g6 (Int32.toNatClampNeg 3) (z7 &&& 255))))] H := hP
  have hD : va_D A [(h, .inr (9, [.ref b, .int 3])), (b, .inl (cy 0, 300, .inl (upd g6 (Int32.toNatClampNeg 3) (z7 &&& 255))))] := hD
  generalize (upd g6 (Int32.toNatClampNeg 3) (z7 &&& 255) : Nat → Int32) = g8 at hP hD
  refine lv_aload_n hx hb dX9_addBytesOf_33 rfl (lv_at hl 1 rfl) ?_
  refine lv_dup hx hb dX9_addBytesOf_34 rfl ?_
  refine va_get (D := D) (ci := 9) (v := .int 3) (C := RX9) (T := TX9) (N := 2) hx hb hts iw_X9_addBytesOf_X9 hown hKX.1 hP 0 rfl rfl 1 (by decide) (hts (.fieldLink RX9 15 "TrainFerry$Tape" "size" "I") (by decide +kernel)) (fun _ h9 => h9) rfl dX9_addBytesOf_35 ?_
  refine lv_iconst (v := 1) hx hb dX9_addBytesOf_38 (by decide) ?_
  refine lv_iadd hx hb dX9_addBytesOf_39 ?_
  refine lv_cst 4 (by decide) ?_
  refine va_put (D := D) (ci := 9) (v := .int 4) (ty := .int) (C := RX9) (T := TX9) (N := 2) hx hb hts iw_X9_addBytesOf_X9 tyX9 tyX9_ok nmX9 hown hKX.1 hP hD hS 0 rfl rfl 1 (by decide) (hts (.fieldLink RX9 15 "TrainFerry$Tape" "size" "I") (by decide +kernel)) (fun _ h9 => h9) rfl (by decide +kernel) rfl rfl (Nat.le_of_ble_eq_true rfl) dX9_addBytesOf_40 (fun H locs hP hD hS => ?_)
  have hP : va_P D vwCl [(h, .inr (9, [.ref b, .int 4])), (b, .inl (cy 0, 300, .inl g8))] H := hP
  have hD : va_D A [(h, .inr (9, [.ref b, .int 4])), (b, .inl (cy 0, 300, .inl g8))] := hD
  refine lv_iinc (v := (-8)) (lv' := [(2, .int (-8)), (0, .ref h), (1, .int n)]) hx hb dX9_addBytesOf_43 hl (k := 0) rfl (by decide) (by decide) rfl (fun ls hl => ?_)
  refine lv_goto (tgt := 3) hx hb dX9_addBytesOf_46 (by decide) ?_
  refine lv_iload_n hx hb dX9_addBytesOf_3 rfl (lv_at hl 0 rfl) ?_
  refine lv_if_lt (tgt := 49) hx hb dX9_addBytesOf_4 (by decide) (fun _ => ?_) (fun c9 => absurd (by decide) c9)
  exact en_v hx hb hr hlocks g8 trivial (hP.sub [0, 1] rfl) (hD.sub [0, 1] (by decide) rfl) hS (Nat.le_of_ble_eq_true rfl) (Nat.le_of_ble_eq_true rfl) dX9_addBytesOf_49
set_option maxHeartbeats 4000000 in
set_option maxRecDepth 100000 in
theorem c_addBytes_4 (l : Launch) (D : va_G) (cy : Nat → ClassId) (h : Nat) (b : Nat) (f : Nat → Int32) (n : Int32) (sz : Nat) : Met l yX9_addBytesOf wsX9_addBytesOf ({ frames := 0, cells := 0, slots := 0, locals := 0 }) (wPre D cy [.ref h, .int n] sz [(h, .inr (9, [.ref b, .int 4])), (b, .inl (cy 0, 300, .inl f))]) (wQv D (fun _ : (Nat → Int32) => True) (fun u : (Nat → Int32) => [(h, .inr (9, [.ref b, .int 8])), (b, .inl (cy 0, 300, .inl u))]) (va_A [(h, .inr (9, [.ref b, .int 4])), (b, .inl (cy 0, 300, .inl f))] sz)) 0 0 (va_A [(h, .inr (9, [.ref b, .int 4])), (b, .inl (cy 0, 300, .inl f))] sz) := by
  refine met_go (y := yX9_addBytesOf) (ws := wsX9_addBytesOf) (av := [.ref h, .int n]) (cc := cX9_addBytesOf) (maxL := 3) (ret := none) (Qc := fun A => wQv D (fun _ : (Nat → Int32) => True) (fun u : (Nat → Int32) => [(h, .inr (9, [.ref b, .int 8])), (b, .inl (cy 0, 300, .inl u))]) A) (by decide) rfl (Nat.le_of_ble_eq_true rfl) ?_
  intro p e s m below meth c ls A hx hb hr hml hown hts hlocks hname hKX hP hD hA hS hl
  have hown : s.vm.findClass RX9 = some m.cls := hown
  have hl : lv_has ls 3 [(0, .ref h), (1, .int n)] := hl
  refine lv_bipush (v := 24) hx hb dX9_addBytesOf_0 (by decide) ?_
  refine lv_istore_n (lv' := [(2, .int 24), (0, .ref h), (1, .int n)]) hx hb dX9_addBytesOf_2 rfl hl (by decide) rfl (fun ls hl => ?_)
  refine lv_iload_n hx hb dX9_addBytesOf_3 rfl (lv_at hl 0 rfl) ?_
  refine lv_if_lt (tgt := 49) hx hb dX9_addBytesOf_4 (by decide) (fun c9 => absurd c9 (by decide)) (fun _ => ?_)
  refine lv_aload_n hx hb dX9_addBytesOf_7 rfl (lv_at hl 1 rfl) ?_
  refine va_get (D := D) (ci := 9) (v := .int 4) (C := RX9) (T := TX9) (N := 2) hx hb hts iw_X9_addBytesOf_X9 hown hKX.1 hP 0 rfl rfl 1 (by decide) (hts (.fieldLink RX9 15 "TrainFerry$Tape" "size" "I") (by decide +kernel)) (fun _ h9 => h9) rfl dX9_addBytesOf_8 ?_
  refine lv_sipush (v := 300) hx hb dX9_addBytesOf_11 (by decide) ?_
  refine lv_icmp_ge (tgt := 49) hx hb dX9_addBytesOf_14 (by decide) (fun c9 => absurd c9 (by decide)) (fun _ => ?_)
  refine lv_aload_n hx hb dX9_addBytesOf_17 rfl (lv_at hl 1 rfl) ?_
  refine va_get (D := D) (ci := 9) (v := .ref b) (C := RX9) (T := TX9) (N := 2) hx hb hts iw_X9_addBytesOf_X9 hown hKX.1 hP 0 rfl rfl 0 (by decide) (hts (.fieldLink RX9 9 "TrainFerry$Tape" "bytes" "[I") (by decide +kernel)) (fun _ h9 => h9) rfl dX9_addBytesOf_18 ?_
  refine lv_aload_n hx hb dX9_addBytesOf_21 rfl (lv_at hl 1 rfl) ?_
  refine va_get (D := D) (ci := 9) (v := .int 4) (C := RX9) (T := TX9) (N := 2) hx hb hts iw_X9_addBytesOf_X9 hown hKX.1 hP 0 rfl rfl 1 (by decide) (hts (.fieldLink RX9 15 "TrainFerry$Tape" "size" "I") (by decide +kernel)) (fun _ h9 => h9) rfl dX9_addBytesOf_22 ?_
  refine lv_iload_n hx hb dX9_addBytesOf_25 rfl (lv_at hl 2 rfl) ?_
  refine lv_iload_n hx hb dX9_addBytesOf_26 rfl (lv_at hl 0 rfl) ?_
  refine lv_iushr (v := _) hx hb dX9_addBytesOf_27 rfl ?_
  refine lv_topi (fun z1 _ => ?_)
  refine lv_sipush (v := 255) hx hb dX9_addBytesOf_28 (by decide) ?_
  refine lv_iand hx hb dX9_addBytesOf_31 ?_
  refine va_iast hx hb hKX.1 hP hD hS 1 0 rfl rfl (vind (by decide)) dX9_addBytesOf_32 (fun H locs hP hD hS => ?_)
  have hP : va_P D vwCl [(h, .inr (9, [.ref b, .int 4])), (b, .inl (cy 0, 300, .inl (upd f (Int32.toNatClampNeg 4) (z1 &&& 255))))] H := hP
  have hD : va_D A [(h, .inr (9, [.ref b, .int 4])), (b, .inl (cy 0, 300, .inl (upd f (Int32.toNatClampNeg 4) (z1 &&& 255))))] := hD
  generalize (upd f (Int32.toNatClampNeg 4) (z1 &&& 255) : Nat → Int32) = g2 at hP hD
  refine lv_aload_n hx hb dX9_addBytesOf_33 rfl (lv_at hl 1 rfl) ?_
  refine lv_dup hx hb dX9_addBytesOf_34 rfl ?_
  refine va_get (D := D) (ci := 9) (v := .int 4) (C := RX9) (T := TX9) (N := 2) hx hb hts iw_X9_addBytesOf_X9 hown hKX.1 hP 0 rfl rfl 1 (by decide) (hts (.fieldLink RX9 15 "TrainFerry$Tape" "size" "I") (by decide +kernel)) (fun _ h9 => h9) rfl dX9_addBytesOf_35 ?_
  refine lv_iconst (v := 1) hx hb dX9_addBytesOf_38 (by decide) ?_
  refine lv_iadd hx hb dX9_addBytesOf_39 ?_
  refine lv_cst 5 (by decide) ?_
  refine va_put (D := D) (ci := 9) (v := .int 5) (ty := .int) (C := RX9) (T := TX9) (N := 2) hx hb hts iw_X9_addBytesOf_X9 tyX9 tyX9_ok nmX9 hown hKX.1 hP hD hS 0 rfl rfl 1 (by decide) (hts (.fieldLink RX9 15 "TrainFerry$Tape" "size" "I") (by decide +kernel)) (fun _ h9 => h9) rfl (by decide +kernel) rfl rfl (Nat.le_of_ble_eq_true rfl) dX9_addBytesOf_40 (fun H locs hP hD hS => ?_)
  have hP : va_P D vwCl [(h, .inr (9, [.ref b, .int 5])), (b, .inl (cy 0, 300, .inl g2))] H := hP
  have hD : va_D A [(h, .inr (9, [.ref b, .int 5])), (b, .inl (cy 0, 300, .inl g2))] := hD
  refine lv_iinc (v := 16) (lv' := [(2, .int 16), (0, .ref h), (1, .int n)]) hx hb dX9_addBytesOf_43 hl (k := 0) rfl (by decide) (by decide) rfl (fun ls hl => ?_)
  refine lv_goto (tgt := 3) hx hb dX9_addBytesOf_46 (by decide) ?_
  refine lv_iload_n hx hb dX9_addBytesOf_3 rfl (lv_at hl 0 rfl) ?_
  refine lv_if_lt (tgt := 49) hx hb dX9_addBytesOf_4 (by decide) (fun c9 => absurd c9 (by decide)) (fun _ => ?_)
  refine lv_aload_n hx hb dX9_addBytesOf_7 rfl (lv_at hl 1 rfl) ?_
  refine va_get (D := D) (ci := 9) (v := .int 5) (C := RX9) (T := TX9) (N := 2) hx hb hts iw_X9_addBytesOf_X9 hown hKX.1 hP 0 rfl rfl 1 (by decide) (hts (.fieldLink RX9 15 "TrainFerry$Tape" "size" "I") (by decide +kernel)) (fun _ h9 => h9) rfl dX9_addBytesOf_8 ?_
  refine lv_sipush (v := 300) hx hb dX9_addBytesOf_11 (by decide) ?_
  refine lv_icmp_ge (tgt := 49) hx hb dX9_addBytesOf_14 (by decide) (fun c9 => absurd c9 (by decide)) (fun _ => ?_)
  refine lv_aload_n hx hb dX9_addBytesOf_17 rfl (lv_at hl 1 rfl) ?_
  refine va_get (D := D) (ci := 9) (v := .ref b) (C := RX9) (T := TX9) (N := 2) hx hb hts iw_X9_addBytesOf_X9 hown hKX.1 hP 0 rfl rfl 0 (by decide) (hts (.fieldLink RX9 9 "TrainFerry$Tape" "bytes" "[I") (by decide +kernel)) (fun _ h9 => h9) rfl dX9_addBytesOf_18 ?_
  refine lv_aload_n hx hb dX9_addBytesOf_21 rfl (lv_at hl 1 rfl) ?_
  refine va_get (D := D) (ci := 9) (v := .int 5) (C := RX9) (T := TX9) (N := 2) hx hb hts iw_X9_addBytesOf_X9 hown hKX.1 hP 0 rfl rfl 1 (by decide) (hts (.fieldLink RX9 15 "TrainFerry$Tape" "size" "I") (by decide +kernel)) (fun _ h9 => h9) rfl dX9_addBytesOf_22 ?_
  refine lv_iload_n hx hb dX9_addBytesOf_25 rfl (lv_at hl 2 rfl) ?_
  refine lv_iload_n hx hb dX9_addBytesOf_26 rfl (lv_at hl 0 rfl) ?_
  refine lv_iushr (v := _) hx hb dX9_addBytesOf_27 rfl ?_
  refine lv_topi (fun z3 _ => ?_)
  refine lv_sipush (v := 255) hx hb dX9_addBytesOf_28 (by decide) ?_
  refine lv_iand hx hb dX9_addBytesOf_31 ?_
  refine va_iast hx hb hKX.1 hP hD hS 1 0 rfl rfl (vind (by decide)) dX9_addBytesOf_32 (fun H locs hP hD hS => ?_)
  have hP : va_P D vwCl [(h, .inr (9, [.ref b, .int 5])), (b, .inl (cy 0, 300, .inl (upd g2 (Int32.toNatClampNeg 5) (z3 &&& 255))))] H := hP
  have hD : va_D A [(h, .inr (9, [.ref b, .int 5])), (b, .inl (cy 0, 300, .inl (upd g2 (Int32.toNatClampNeg 5) (z3 &&& 255))))] := hD
  generalize (upd g2 (Int32.toNatClampNeg 5) (z3 &&& 255) : Nat → Int32) = g4 at hP hD
  refine lv_aload_n hx hb dX9_addBytesOf_33 rfl (lv_at hl 1 rfl) ?_
  refine lv_dup hx hb dX9_addBytesOf_34 rfl ?_
  refine va_get (D := D) (ci := 9) (v := .int 5) (C := RX9) (T := TX9) (N := 2) hx hb hts iw_X9_addBytesOf_X9 hown hKX.1 hP 0 rfl rfl 1 (by decide) (hts (.fieldLink RX9 15 "TrainFerry$Tape" "size" "I") (by decide +kernel)) (fun _ h9 => h9) rfl dX9_addBytesOf_35 ?_
  refine lv_iconst (v := 1) hx hb dX9_addBytesOf_38 (by decide) ?_
  refine lv_iadd hx hb dX9_addBytesOf_39 ?_
  refine lv_cst 6 (by decide) ?_
  refine va_put (D := D) (ci := 9) (v := .int 6) (ty := .int) (C := RX9) (T := TX9) (N := 2) hx hb hts iw_X9_addBytesOf_X9 tyX9 tyX9_ok nmX9 hown hKX.1 hP hD hS 0 rfl rfl 1 (by decide) (hts (.fieldLink RX9 15 "TrainFerry$Tape" "size" "I") (by decide +kernel)) (fun _ h9 => h9) rfl (by decide +kernel) rfl rfl (Nat.le_of_ble_eq_true rfl) dX9_addBytesOf_40 (fun H locs hP hD hS => ?_)
  have hP : va_P D vwCl [(h, .inr (9, [.ref b, .int 6])), (b, .inl (cy 0, 300, .inl g4))] H := hP
  have hD : va_D A [(h, .inr (9, [.ref b, .int 6])), (b, .inl (cy 0, 300, .inl g4))] := hD
  refine lv_iinc (v := 8) (lv' := [(2, .int 8), (0, .ref h), (1, .int n)]) hx hb dX9_addBytesOf_43 hl (k := 0) rfl (by decide) (by decide) rfl (fun ls hl => ?_)
  refine lv_goto (tgt := 3) hx hb dX9_addBytesOf_46 (by decide) ?_
  refine lv_iload_n hx hb dX9_addBytesOf_3 rfl (lv_at hl 0 rfl) ?_
  refine lv_if_lt (tgt := 49) hx hb dX9_addBytesOf_4 (by decide) (fun c9 => absurd c9 (by decide)) (fun _ => ?_)
  refine lv_aload_n hx hb dX9_addBytesOf_7 rfl (lv_at hl 1 rfl) ?_
  refine va_get (D := D) (ci := 9) (v := .int 6) (C := RX9) (T := TX9) (N := 2) hx hb hts iw_X9_addBytesOf_X9 hown hKX.1 hP 0 rfl rfl 1 (by decide) (hts (.fieldLink RX9 15 "TrainFerry$Tape" "size" "I") (by decide +kernel)) (fun _ h9 => h9) rfl dX9_addBytesOf_8 ?_
  refine lv_sipush (v := 300) hx hb dX9_addBytesOf_11 (by decide) ?_
  refine lv_icmp_ge (tgt := 49) hx hb dX9_addBytesOf_14 (by decide) (fun c9 => absurd c9 (by decide)) (fun _ => ?_)
  refine lv_aload_n hx hb dX9_addBytesOf_17 rfl (lv_at hl 1 rfl) ?_
  refine va_get (D := D) (ci := 9) (v := .ref b) (C := RX9) (T := TX9) (N := 2) hx hb hts iw_X9_addBytesOf_X9 hown hKX.1 hP 0 rfl rfl 0 (by decide) (hts (.fieldLink RX9 9 "TrainFerry$Tape" "bytes" "[I") (by decide +kernel)) (fun _ h9 => h9) rfl dX9_addBytesOf_18 ?_
  refine lv_aload_n hx hb dX9_addBytesOf_21 rfl (lv_at hl 1 rfl) ?_
  refine va_get (D := D) (ci := 9) (v := .int 6) (C := RX9) (T := TX9) (N := 2) hx hb hts iw_X9_addBytesOf_X9 hown hKX.1 hP 0 rfl rfl 1 (by decide) (hts (.fieldLink RX9 15 "TrainFerry$Tape" "size" "I") (by decide +kernel)) (fun _ h9 => h9) rfl dX9_addBytesOf_22 ?_
  refine lv_iload_n hx hb dX9_addBytesOf_25 rfl (lv_at hl 2 rfl) ?_
  refine lv_iload_n hx hb dX9_addBytesOf_26 rfl (lv_at hl 0 rfl) ?_
  refine lv_iushr (v := _) hx hb dX9_addBytesOf_27 rfl ?_
  refine lv_topi (fun z5 _ => ?_)
  refine lv_sipush (v := 255) hx hb dX9_addBytesOf_28 (by decide) ?_
  refine lv_iand hx hb dX9_addBytesOf_31 ?_
  refine va_iast hx hb hKX.1 hP hD hS 1 0 rfl rfl (vind (by decide)) dX9_addBytesOf_32 (fun H locs hP hD hS => ?_)
  have hP : va_P D vwCl [(h, .inr (9, [.ref b, .int 6])), (b, .inl (cy 0, 300, .inl (upd g4 (Int32.toNatClampNeg 6) (z5 &&& 255))))] H := hP
  have hD : va_D A [(h, .inr (9, [.ref b, .int 6])), (b, .inl (cy 0, 300, .inl (upd g4 (Int32.toNatClampNeg 6) (z5 &&& 255))))] := hD
  generalize (upd g4 (Int32.toNatClampNeg 6) (z5 &&& 255) : Nat → Int32) = g6 at hP hD
  refine lv_aload_n hx hb dX9_addBytesOf_33 rfl (lv_at hl 1 rfl) ?_
  refine lv_dup hx hb dX9_addBytesOf_34 rfl ?_
  refine va_get (D := D) (ci := 9) (v := .int 6) (C := RX9) (T := TX9) (N := 2) hx hb hts iw_X9_addBytesOf_X9 hown hKX.1 hP 0 rfl rfl 1 (by decide) (hts (.fieldLink RX9 15 "TrainFerry$Tape" "size" "I") (by decide +kernel)) (fun _ h9 => h9) rfl dX9_addBytesOf_35 ?_
  refine lv_iconst (v := 1) hx hb dX9_addBytesOf_38 (by decide) ?_
  refine lv_iadd hx hb dX9_addBytesOf_39 ?_
  refine lv_cst 7 (by decide) ?_
  refine va_put (D := D) (ci := 9) (v := .int 7) (ty := .int) (C := RX9) (T := TX9) (N := 2) hx hb hts iw_X9_addBytesOf_X9 tyX9 tyX9_ok nmX9 hown hKX.1 hP hD hS 0 rfl rfl 1 (by decide) (hts (.fieldLink RX9 15 "TrainFerry$Tape" "size" "I") (by decide +kernel)) (fun _ h9 => h9) rfl (by decide +kernel) rfl rfl (Nat.le_of_ble_eq_true rfl) dX9_addBytesOf_40 (fun H locs hP hD hS => ?_)
  have hP : va_P D vwCl [(h, .inr (9, [.ref b, .int 7])), (b, .inl (cy 0, 300, .inl g6))] H := hP
  have hD : va_D A [(h, .inr (9, [.ref b, .int 7])), (b, .inl (cy 0, 300, .inl g6))] := hD
  refine lv_iinc (v := 0) (lv' := [(2, .int 0), (0, .ref h), (1, .int n)]) hx hb dX9_addBytesOf_43 hl (k := 0) rfl (by decide) (by decide) rfl (fun ls hl => ?_)
  refine lv_goto (tgt := 3) hx hb dX9_addBytesOf_46 (by decide) ?_
  refine lv_iload_n hx hb dX9_addBytesOf_3 rfl (lv_at hl 0 rfl) ?_
  refine lv_if_lt (tgt := 49) hx hb dX9_addBytesOf_4 (by decide) (fun c9 => absurd c9 (by decide)) (fun _ => ?_)
  refine lv_aload_n hx hb dX9_addBytesOf_7 rfl (lv_at hl 1 rfl) ?_
  refine va_get (D := D) (ci := 9) (v := .int 7) (C := RX9) (T := TX9) (N := 2) hx hb hts iw_X9_addBytesOf_X9 hown hKX.1 hP 0 rfl rfl 1 (by decide) (hts (.fieldLink RX9 15 "TrainFerry$Tape" "size" "I") (by decide +kernel)) (fun _ h9 => h9) rfl dX9_addBytesOf_8 ?_
  refine lv_sipush (v := 300) hx hb dX9_addBytesOf_11 (by decide) ?_
  refine lv_icmp_ge (tgt := 49) hx hb dX9_addBytesOf_14 (by decide) (fun c9 => absurd c9 (by decide)) (fun _ => ?_)
  refine lv_aload_n hx hb dX9_addBytesOf_17 rfl (lv_at hl 1 rfl) ?_
  refine va_get (D := D) (ci := 9) (v := .ref b) (C := RX9) (T := TX9) (N := 2) hx hb hts iw_X9_addBytesOf_X9 hown hKX.1 hP 0 rfl rfl 0 (by decide) (hts (.fieldLink RX9 9 "TrainFerry$Tape" "bytes" "[I") (by decide +kernel)) (fun _ h9 => h9) rfl dX9_addBytesOf_18 ?_
  refine lv_aload_n hx hb dX9_addBytesOf_21 rfl (lv_at hl 1 rfl) ?_
  refine va_get (D := D) (ci := 9) (v := .int 7) (C := RX9) (T := TX9) (N := 2) hx hb hts iw_X9_addBytesOf_X9 hown hKX.1 hP 0 rfl rfl 1 (by decide) (hts (.fieldLink RX9 15 "TrainFerry$Tape" "size" "I") (by decide +kernel)) (fun _ h9 => h9) rfl dX9_addBytesOf_22 ?_
  refine lv_iload_n hx hb dX9_addBytesOf_25 rfl (lv_at hl 2 rfl) ?_
  refine lv_iload_n hx hb dX9_addBytesOf_26 rfl (lv_at hl 0 rfl) ?_
  refine lv_iushr (v := _) hx hb dX9_addBytesOf_27 rfl ?_
  refine lv_topi (fun z7 _ => ?_)
  refine lv_sipush (v := 255) hx hb dX9_addBytesOf_28 (by decide) ?_
  refine lv_iand hx hb dX9_addBytesOf_31 ?_
  refine va_iast hx hb hKX.1 hP hD hS 1 0 rfl rfl (vind (by decide)) dX9_addBytesOf_32 (fun H locs hP hD hS => ?_)
  have hP : va_P D vwCl [(h, .inr (9, [.ref b, .int 7])), (b, .inl (cy 0, 300, .inl (upd g6 (Int32.toNatClampNeg 7) (z7 &&& 255))))] H := hP
  have hD : va_D A [(h, .inr (9, [.ref b, .int 7])), (b, .inl (cy 0, 300, .inl (upd g6 (Int32.toNatClampNeg 7) (z7 &&& 255))))] := hD
  generalize (upd g6 (Int32.toNatClampNeg 7) (z7 &&& 255) : Nat → Int32) = g8 at hP hD
  refine lv_aload_n hx hb dX9_addBytesOf_33 rfl (lv_at hl 1 rfl) ?_
  refine lv_dup hx hb dX9_addBytesOf_34 rfl ?_
  refine va_get (D := D) (ci := 9) (v := .int 7) (C := RX9) (T := TX9) (N := 2) hx hb hts iw_X9_addBytesOf_X9 hown hKX.1 hP 0 rfl rfl 1 (by decide) (hts (.fieldLink RX9 15 "TrainFerry$Tape" "size" "I") (by decide +kernel)) (fun _ h9 => h9) rfl dX9_addBytesOf_35 ?_
  refine lv_iconst (v := 1) hx hb dX9_addBytesOf_38 (by decide) ?_
  refine lv_iadd hx hb dX9_addBytesOf_39 ?_
  refine lv_cst 8 (by decide) ?_
  refine va_put (D := D) (ci := 9) (v := .int 8) (ty := .int) (C := RX9) (T := TX9) (N := 2) hx hb hts iw_X9_addBytesOf_X9 tyX9 tyX9_ok nmX9 hown hKX.1 hP hD hS 0 rfl rfl 1 (by decide) (hts (.fieldLink RX9 15 "TrainFerry$Tape" "size" "I") (by decide +kernel)) (fun _ h9 => h9) rfl (by decide +kernel) rfl rfl (Nat.le_of_ble_eq_true rfl) dX9_addBytesOf_40 (fun H locs hP hD hS => ?_)
  have hP : va_P D vwCl [(h, .inr (9, [.ref b, .int 8])), (b, .inl (cy 0, 300, .inl g8))] H := hP
  have hD : va_D A [(h, .inr (9, [.ref b, .int 8])), (b, .inl (cy 0, 300, .inl g8))] := hD
  refine lv_iinc (v := (-8)) (lv' := [(2, .int (-8)), (0, .ref h), (1, .int n)]) hx hb dX9_addBytesOf_43 hl (k := 0) rfl (by decide) (by decide) rfl (fun ls hl => ?_)
  refine lv_goto (tgt := 3) hx hb dX9_addBytesOf_46 (by decide) ?_
  refine lv_iload_n hx hb dX9_addBytesOf_3 rfl (lv_at hl 0 rfl) ?_
  refine lv_if_lt (tgt := 49) hx hb dX9_addBytesOf_4 (by decide) (fun _ => ?_) (fun c9 => absurd (by decide) c9)
  exact en_v hx hb hr hlocks g8 trivial (hP.sub [0, 1] rfl) (hD.sub [0, 1] (by decide) rfl) hS (Nat.le_of_ble_eq_true rfl) (Nat.le_of_ble_eq_true rfl) dX9_addBytesOf_49
set_option maxHeartbeats 4000000 in
set_option maxRecDepth 100000 in
theorem c_addBytes_8 (l : Launch) (D : va_G) (cy : Nat → ClassId) (h : Nat) (b : Nat) (f : Nat → Int32) (n : Int32) (sz : Nat) : Met l yX9_addBytesOf wsX9_addBytesOf ({ frames := 0, cells := 0, slots := 0, locals := 0 }) (wPre D cy [.ref h, .int n] sz [(h, .inr (9, [.ref b, .int 8])), (b, .inl (cy 0, 300, .inl f))]) (wQv D (fun _ : (Nat → Int32) => True) (fun u : (Nat → Int32) => [(h, .inr (9, [.ref b, .int 12])), (b, .inl (cy 0, 300, .inl u))]) (va_A [(h, .inr (9, [.ref b, .int 8])), (b, .inl (cy 0, 300, .inl f))] sz)) 0 0 (va_A [(h, .inr (9, [.ref b, .int 8])), (b, .inl (cy 0, 300, .inl f))] sz) := by
  refine met_go (y := yX9_addBytesOf) (ws := wsX9_addBytesOf) (av := [.ref h, .int n]) (cc := cX9_addBytesOf) (maxL := 3) (ret := none) (Qc := fun A => wQv D (fun _ : (Nat → Int32) => True) (fun u : (Nat → Int32) => [(h, .inr (9, [.ref b, .int 12])), (b, .inl (cy 0, 300, .inl u))]) A) (by decide) rfl (Nat.le_of_ble_eq_true rfl) ?_
  intro p e s m below meth c ls A hx hb hr hml hown hts hlocks hname hKX hP hD hA hS hl
  have hown : s.vm.findClass RX9 = some m.cls := hown
  have hl : lv_has ls 3 [(0, .ref h), (1, .int n)] := hl
  refine lv_bipush (v := 24) hx hb dX9_addBytesOf_0 (by decide) ?_
  refine lv_istore_n (lv' := [(2, .int 24), (0, .ref h), (1, .int n)]) hx hb dX9_addBytesOf_2 rfl hl (by decide) rfl (fun ls hl => ?_)
  refine lv_iload_n hx hb dX9_addBytesOf_3 rfl (lv_at hl 0 rfl) ?_
  refine lv_if_lt (tgt := 49) hx hb dX9_addBytesOf_4 (by decide) (fun c9 => absurd c9 (by decide)) (fun _ => ?_)
  refine lv_aload_n hx hb dX9_addBytesOf_7 rfl (lv_at hl 1 rfl) ?_
  refine va_get (D := D) (ci := 9) (v := .int 8) (C := RX9) (T := TX9) (N := 2) hx hb hts iw_X9_addBytesOf_X9 hown hKX.1 hP 0 rfl rfl 1 (by decide) (hts (.fieldLink RX9 15 "TrainFerry$Tape" "size" "I") (by decide +kernel)) (fun _ h9 => h9) rfl dX9_addBytesOf_8 ?_
  refine lv_sipush (v := 300) hx hb dX9_addBytesOf_11 (by decide) ?_
  refine lv_icmp_ge (tgt := 49) hx hb dX9_addBytesOf_14 (by decide) (fun c9 => absurd c9 (by decide)) (fun _ => ?_)
  refine lv_aload_n hx hb dX9_addBytesOf_17 rfl (lv_at hl 1 rfl) ?_
  refine va_get (D := D) (ci := 9) (v := .ref b) (C := RX9) (T := TX9) (N := 2) hx hb hts iw_X9_addBytesOf_X9 hown hKX.1 hP 0 rfl rfl 0 (by decide) (hts (.fieldLink RX9 9 "TrainFerry$Tape" "bytes" "[I") (by decide +kernel)) (fun _ h9 => h9) rfl dX9_addBytesOf_18 ?_
  refine lv_aload_n hx hb dX9_addBytesOf_21 rfl (lv_at hl 1 rfl) ?_
  refine va_get (D := D) (ci := 9) (v := .int 8) (C := RX9) (T := TX9) (N := 2) hx hb hts iw_X9_addBytesOf_X9 hown hKX.1 hP 0 rfl rfl 1 (by decide) (hts (.fieldLink RX9 15 "TrainFerry$Tape" "size" "I") (by decide +kernel)) (fun _ h9 => h9) rfl dX9_addBytesOf_22 ?_
  refine lv_iload_n hx hb dX9_addBytesOf_25 rfl (lv_at hl 2 rfl) ?_
  refine lv_iload_n hx hb dX9_addBytesOf_26 rfl (lv_at hl 0 rfl) ?_
  refine lv_iushr (v := _) hx hb dX9_addBytesOf_27 rfl ?_
  refine lv_topi (fun z1 _ => ?_)
  refine lv_sipush (v := 255) hx hb dX9_addBytesOf_28 (by decide) ?_
  refine lv_iand hx hb dX9_addBytesOf_31 ?_
  refine va_iast hx hb hKX.1 hP hD hS 1 0 rfl rfl (vind (by decide)) dX9_addBytesOf_32 (fun H locs hP hD hS => ?_)
  have hP : va_P D vwCl [(h, .inr (9, [.ref b, .int 8])), (b, .inl (cy 0, 300, .inl (upd f (Int32.toNatClampNeg 8) (z1 &&& 255))))] H := hP
  have hD : va_D A [(h, .inr (9, [.ref b, .int 8])), (b, .inl (cy 0, 300, .inl (upd f (Int32.toNatClampNeg 8) (z1 &&& 255))))] := hD
  generalize (upd f (Int32.toNatClampNeg 8) (z1 &&& 255) : Nat → Int32) = g2 at hP hD
  refine lv_aload_n hx hb dX9_addBytesOf_33 rfl (lv_at hl 1 rfl) ?_
  refine lv_dup hx hb dX9_addBytesOf_34 rfl ?_
  refine va_get (D := D) (ci := 9) (v := .int 8) (C := RX9) (T := TX9) (N := 2) hx hb hts iw_X9_addBytesOf_X9 hown hKX.1 hP 0 rfl rfl 1 (by decide) (hts (.fieldLink RX9 15 "TrainFerry$Tape" "size" "I") (by decide +kernel)) (fun _ h9 => h9) rfl dX9_addBytesOf_35 ?_
  refine lv_iconst (v := 1) hx hb dX9_addBytesOf_38 (by decide) ?_
  refine lv_iadd hx hb dX9_addBytesOf_39 ?_
  refine lv_cst 9 (by decide) ?_
  refine va_put (D := D) (ci := 9) (v := .int 9) (ty := .int) (C := RX9) (T := TX9) (N := 2) hx hb hts iw_X9_addBytesOf_X9 tyX9 tyX9_ok nmX9 hown hKX.1 hP hD hS 0 rfl rfl 1 (by decide) (hts (.fieldLink RX9 15 "TrainFerry$Tape" "size" "I") (by decide +kernel)) (fun _ h9 => h9) rfl (by decide +kernel) rfl rfl (Nat.le_of_ble_eq_true rfl) dX9_addBytesOf_40 (fun H locs hP hD hS => ?_)
  have hP : va_P D vwCl [(h, .inr (9, [.ref b, .int 9])), (b, .inl (cy 0, 300, .inl g2))] H := hP
  have hD : va_D A [(h, .inr (9, [.ref b, .int 9])), (b, .inl (cy 0, 300, .inl g2))] := hD
  refine lv_iinc (v := 16) (lv' := [(2, .int 16), (0, .ref h), (1, .int n)]) hx hb dX9_addBytesOf_43 hl (k := 0) rfl (by decide) (by decide) rfl (fun ls hl => ?_)
  refine lv_goto (tgt := 3) hx hb dX9_addBytesOf_46 (by decide) ?_
  refine lv_iload_n hx hb dX9_addBytesOf_3 rfl (lv_at hl 0 rfl) ?_
  refine lv_if_lt (tgt := 49) hx hb dX9_addBytesOf_4 (by decide) (fun c9 => absurd c9 (by decide)) (fun _ => ?_)
  refine lv_aload_n hx hb dX9_addBytesOf_7 rfl (lv_at hl 1 rfl) ?_
  refine va_get (D := D) (ci := 9) (v := .int 9) (C := RX9) (T := TX9) (N := 2) hx hb hts iw_X9_addBytesOf_X9 hown hKX.1 hP 0 rfl rfl 1 (by decide) (hts (.fieldLink RX9 15 "TrainFerry$Tape" "size" "I") (by decide +kernel)) (fun _ h9 => h9) rfl dX9_addBytesOf_8 ?_
  refine lv_sipush (v := 300) hx hb dX9_addBytesOf_11 (by decide) ?_
  refine lv_icmp_ge (tgt := 49) hx hb dX9_addBytesOf_14 (by decide) (fun c9 => absurd c9 (by decide)) (fun _ => ?_)
  refine lv_aload_n hx hb dX9_addBytesOf_17 rfl (lv_at hl 1 rfl) ?_
  refine va_get (D := D) (ci := 9) (v := .ref b) (C := RX9) (T := TX9) (N := 2) hx hb hts iw_X9_addBytesOf_X9 hown hKX.1 hP 0 rfl rfl 0 (by decide) (hts (.fieldLink RX9 9 "TrainFerry$Tape" "bytes" "[I") (by decide +kernel)) (fun _ h9 => h9) rfl dX9_addBytesOf_18 ?_
  refine lv_aload_n hx hb dX9_addBytesOf_21 rfl (lv_at hl 1 rfl) ?_
  refine va_get (D := D) (ci := 9) (v := .int 9) (C := RX9) (T := TX9) (N := 2) hx hb hts iw_X9_addBytesOf_X9 hown hKX.1 hP 0 rfl rfl 1 (by decide) (hts (.fieldLink RX9 15 "TrainFerry$Tape" "size" "I") (by decide +kernel)) (fun _ h9 => h9) rfl dX9_addBytesOf_22 ?_
  refine lv_iload_n hx hb dX9_addBytesOf_25 rfl (lv_at hl 2 rfl) ?_
  refine lv_iload_n hx hb dX9_addBytesOf_26 rfl (lv_at hl 0 rfl) ?_
  refine lv_iushr (v := _) hx hb dX9_addBytesOf_27 rfl ?_
  refine lv_topi (fun z3 _ => ?_)
  refine lv_sipush (v := 255) hx hb dX9_addBytesOf_28 (by decide) ?_
  refine lv_iand hx hb dX9_addBytesOf_31 ?_
  refine va_iast hx hb hKX.1 hP hD hS 1 0 rfl rfl (vind (by decide)) dX9_addBytesOf_32 (fun H locs hP hD hS => ?_)
  have hP : va_P D vwCl [(h, .inr (9, [.ref b, .int 9])), (b, .inl (cy 0, 300, .inl (upd g2 (Int32.toNatClampNeg 9) (z3 &&& 255))))] H := hP
  have hD : va_D A [(h, .inr (9, [.ref b, .int 9])), (b, .inl (cy 0, 300, .inl (upd g2 (Int32.toNatClampNeg 9) (z3 &&& 255))))] := hD
  generalize (upd g2 (Int32.toNatClampNeg 9) (z3 &&& 255) : Nat → Int32) = g4 at hP hD
  refine lv_aload_n hx hb dX9_addBytesOf_33 rfl (lv_at hl 1 rfl) ?_
  refine lv_dup hx hb dX9_addBytesOf_34 rfl ?_
  refine va_get (D := D) (ci := 9) (v := .int 9) (C := RX9) (T := TX9) (N := 2) hx hb hts iw_X9_addBytesOf_X9 hown hKX.1 hP 0 rfl rfl 1 (by decide) (hts (.fieldLink RX9 15 "TrainFerry$Tape" "size" "I") (by decide +kernel)) (fun _ h9 => h9) rfl dX9_addBytesOf_35 ?_
  refine lv_iconst (v := 1) hx hb dX9_addBytesOf_38 (by decide) ?_
  refine lv_iadd hx hb dX9_addBytesOf_39 ?_
  refine lv_cst 10 (by decide) ?_
  refine va_put (D := D) (ci := 9) (v := .int 10) (ty := .int) (C := RX9) (T := TX9) (N := 2) hx hb hts iw_X9_addBytesOf_X9 tyX9 tyX9_ok nmX9 hown hKX.1 hP hD hS 0 rfl rfl 1 (by decide) (hts (.fieldLink RX9 15 "TrainFerry$Tape" "size" "I") (by decide +kernel)) (fun _ h9 => h9) rfl (by decide +kernel) rfl rfl (Nat.le_of_ble_eq_true rfl) dX9_addBytesOf_40 (fun H locs hP hD hS => ?_)
  have hP : va_P D vwCl [(h, .inr (9, [.ref b, .int 10])), (b, .inl (cy 0, 300, .inl g4))] H := hP
  have hD : va_D A [(h, .inr (9, [.ref b, .int 10])), (b, .inl (cy 0, 300, .inl g4))] := hD
  refine lv_iinc (v := 8) (lv' := [(2, .int 8), (0, .ref h), (1, .int n)]) hx hb dX9_addBytesOf_43 hl (k := 0) rfl (by decide) (by decide) rfl (fun ls hl => ?_)
  refine lv_goto (tgt := 3) hx hb dX9_addBytesOf_46 (by decide) ?_
  refine lv_iload_n hx hb dX9_addBytesOf_3 rfl (lv_at hl 0 rfl) ?_
  refine lv_if_lt (tgt := 49) hx hb dX9_addBytesOf_4 (by decide) (fun c9 => absurd c9 (by decide)) (fun _ => ?_)
  refine lv_aload_n hx hb dX9_addBytesOf_7 rfl (lv_at hl 1 rfl) ?_
  refine va_get (D := D) (ci := 9) (v := .int 10) (C := RX9) (T := TX9) (N := 2) hx hb hts iw_X9_addBytesOf_X9 hown hKX.1 hP 0 rfl rfl 1 (by decide) (hts (.fieldLink RX9 15 "TrainFerry$Tape" "size" "I") (by decide +kernel)) (fun _ h9 => h9) rfl dX9_addBytesOf_8 ?_
  refine lv_sipush (v := 300) hx hb dX9_addBytesOf_11 (by decide) ?_
  refine lv_icmp_ge (tgt := 49) hx hb dX9_addBytesOf_14 (by decide) (fun c9 => absurd c9 (by decide)) (fun _ => ?_)
  refine lv_aload_n hx hb dX9_addBytesOf_17 rfl (lv_at hl 1 rfl) ?_
  refine va_get (D := D) (ci := 9) (v := .ref b) (C := RX9) (T := TX9) (N := 2) hx hb hts iw_X9_addBytesOf_X9 hown hKX.1 hP 0 rfl rfl 0 (by decide) (hts (.fieldLink RX9 9 "TrainFerry$Tape" "bytes" "[I") (by decide +kernel)) (fun _ h9 => h9) rfl dX9_addBytesOf_18 ?_
  refine lv_aload_n hx hb dX9_addBytesOf_21 rfl (lv_at hl 1 rfl) ?_
  refine va_get (D := D) (ci := 9) (v := .int 10) (C := RX9) (T := TX9) (N := 2) hx hb hts iw_X9_addBytesOf_X9 hown hKX.1 hP 0 rfl rfl 1 (by decide) (hts (.fieldLink RX9 15 "TrainFerry$Tape" "size" "I") (by decide +kernel)) (fun _ h9 => h9) rfl dX9_addBytesOf_22 ?_
  refine lv_iload_n hx hb dX9_addBytesOf_25 rfl (lv_at hl 2 rfl) ?_
  refine lv_iload_n hx hb dX9_addBytesOf_26 rfl (lv_at hl 0 rfl) ?_
  refine lv_iushr (v := _) hx hb dX9_addBytesOf_27 rfl ?_
  refine lv_topi (fun z5 _ => ?_)
  refine lv_sipush (v := 255) hx hb dX9_addBytesOf_28 (by decide) ?_
  refine lv_iand hx hb dX9_addBytesOf_31 ?_
  refine va_iast hx hb hKX.1 hP hD hS 1 0 rfl rfl (vind (by decide)) dX9_addBytesOf_32 (fun H locs hP hD hS => ?_)
  have hP : va_P D vwCl [(h, .inr (9, [.ref b, .int 10])), (b, .inl (cy 0, 300, .inl (upd g4 (Int32.toNatClampNeg 10) (z5 &&& 255))))] H := hP
  have hD : va_D A [(h, .inr (9, [.ref b, .int 10])), (b, .inl (cy 0, 300, .inl (upd g4 (Int32.toNatClampNeg 10) (z5 &&& 255))))] := hD
  generalize (upd g4 (Int32.toNatClampNeg 10) (z5 &&& 255) : Nat → Int32) = g6 at hP hD
  refine lv_aload_n hx hb dX9_addBytesOf_33 rfl (lv_at hl 1 rfl) ?_
  refine lv_dup hx hb dX9_addBytesOf_34 rfl ?_
  refine va_get (D := D) (ci := 9) (v := .int 10) (C := RX9) (T := TX9) (N := 2) hx hb hts iw_X9_addBytesOf_X9 hown hKX.1 hP 0 rfl rfl 1 (by decide) (hts (.fieldLink RX9 15 "TrainFerry$Tape" "size" "I") (by decide +kernel)) (fun _ h9 => h9) rfl dX9_addBytesOf_35 ?_
  refine lv_iconst (v := 1) hx hb dX9_addBytesOf_38 (by decide) ?_
  refine lv_iadd hx hb dX9_addBytesOf_39 ?_
  refine lv_cst 11 (by decide) ?_
  refine va_put (D := D) (ci := 9) (v := .int 11) (ty := .int) (C := RX9) (T := TX9) (N := 2) hx hb hts iw_X9_addBytesOf_X9 tyX9 tyX9_ok nmX9 hown hKX.1 hP hD hS 0 rfl rfl 1 (by decide) (hts (.fieldLink RX9 15 "TrainFerry$Tape" "size" "I") (by decide +kernel)) (fun _ h9 => h9) rfl (by decide +kernel) rfl rfl (Nat.le_of_ble_eq_true rfl) dX9_addBytesOf_40 (fun H locs hP hD hS => ?_)
  have hP : va_P D vwCl [(h, .inr (9, [.ref b, .int 11])), (b, .inl (cy 0, 300, .inl g6))] H := hP
  have hD : va_D A [(h, .inr (9, [.ref b, .int 11])), (b, .inl (cy 0, 300, .inl g6))] := hD
  refine lv_iinc (v := 0) (lv' := [(2, .int 0), (0, .ref h), (1, .int n)]) hx hb dX9_addBytesOf_43 hl (k := 0) rfl (by decide) (by decide) rfl (fun ls hl => ?_)
  refine lv_goto (tgt := 3) hx hb dX9_addBytesOf_46 (by decide) ?_
  refine lv_iload_n hx hb dX9_addBytesOf_3 rfl (lv_at hl 0 rfl) ?_
  refine lv_if_lt (tgt := 49) hx hb dX9_addBytesOf_4 (by decide) (fun c9 => absurd c9 (by decide)) (fun _ => ?_)
  refine lv_aload_n hx hb dX9_addBytesOf_7 rfl (lv_at hl 1 rfl) ?_
  refine va_get (D := D) (ci := 9) (v := .int 11) (C := RX9) (T := TX9) (N := 2) hx hb hts iw_X9_addBytesOf_X9 hown hKX.1 hP 0 rfl rfl 1 (by decide) (hts (.fieldLink RX9 15 "TrainFerry$Tape" "size" "I") (by decide +kernel)) (fun _ h9 => h9) rfl dX9_addBytesOf_8 ?_
  refine lv_sipush (v := 300) hx hb dX9_addBytesOf_11 (by decide) ?_
  refine lv_icmp_ge (tgt := 49) hx hb dX9_addBytesOf_14 (by decide) (fun c9 => absurd c9 (by decide)) (fun _ => ?_)
  refine lv_aload_n hx hb dX9_addBytesOf_17 rfl (lv_at hl 1 rfl) ?_
  refine va_get (D := D) (ci := 9) (v := .ref b) (C := RX9) (T := TX9) (N := 2) hx hb hts iw_X9_addBytesOf_X9 hown hKX.1 hP 0 rfl rfl 0 (by decide) (hts (.fieldLink RX9 9 "TrainFerry$Tape" "bytes" "[I") (by decide +kernel)) (fun _ h9 => h9) rfl dX9_addBytesOf_18 ?_
  refine lv_aload_n hx hb dX9_addBytesOf_21 rfl (lv_at hl 1 rfl) ?_
  refine va_get (D := D) (ci := 9) (v := .int 11) (C := RX9) (T := TX9) (N := 2) hx hb hts iw_X9_addBytesOf_X9 hown hKX.1 hP 0 rfl rfl 1 (by decide) (hts (.fieldLink RX9 15 "TrainFerry$Tape" "size" "I") (by decide +kernel)) (fun _ h9 => h9) rfl dX9_addBytesOf_22 ?_
  refine lv_iload_n hx hb dX9_addBytesOf_25 rfl (lv_at hl 2 rfl) ?_
  refine lv_iload_n hx hb dX9_addBytesOf_26 rfl (lv_at hl 0 rfl) ?_
  refine lv_iushr (v := _) hx hb dX9_addBytesOf_27 rfl ?_
  refine lv_topi (fun z7 _ => ?_)
  refine lv_sipush (v := 255) hx hb dX9_addBytesOf_28 (by decide) ?_
  refine lv_iand hx hb dX9_addBytesOf_31 ?_
  refine va_iast hx hb hKX.1 hP hD hS 1 0 rfl rfl (vind (by decide)) dX9_addBytesOf_32 (fun H locs hP hD hS => ?_)
  have hP : va_P D vwCl [(h, .inr (9, [.ref b, .int 11])), (b, .inl (cy 0, 300, .inl (upd g6 (Int32.toNatClampNeg 11) (z7 &&& 255))))] H := hP
  have hD : va_D A [(h, .inr (9, [.ref b, .int 11])), (b, .inl (cy 0, 300, .inl (upd g6 (Int32.toNatClampNeg 11) (z7 &&& 255))))] := hD
  generalize (upd g6 (Int32.toNatClampNeg 11) (z7 &&& 255) : Nat → Int32) = g8 at hP hD
  refine lv_aload_n hx hb dX9_addBytesOf_33 rfl (lv_at hl 1 rfl) ?_
  refine lv_dup hx hb dX9_addBytesOf_34 rfl ?_
  refine va_get (D := D) (ci := 9) (v := .int 11) (C := RX9) (T := TX9) (N := 2) hx hb hts iw_X9_addBytesOf_X9 hown hKX.1 hP 0 rfl rfl 1 (by decide) (hts (.fieldLink RX9 15 "TrainFerry$Tape" "size" "I") (by decide +kernel)) (fun _ h9 => h9) rfl dX9_addBytesOf_35 ?_
  refine lv_iconst (v := 1) hx hb dX9_addBytesOf_38 (by decide) ?_
  refine lv_iadd hx hb dX9_addBytesOf_39 ?_
  refine lv_cst 12 (by decide) ?_
  refine va_put (D := D) (ci := 9) (v := .int 12) (ty := .int) (C := RX9) (T := TX9) (N := 2) hx hb hts iw_X9_addBytesOf_X9 tyX9 tyX9_ok nmX9 hown hKX.1 hP hD hS 0 rfl rfl 1 (by decide) (hts (.fieldLink RX9 15 "TrainFerry$Tape" "size" "I") (by decide +kernel)) (fun _ h9 => h9) rfl (by decide +kernel) rfl rfl (Nat.le_of_ble_eq_true rfl) dX9_addBytesOf_40 (fun H locs hP hD hS => ?_)
  have hP : va_P D vwCl [(h, .inr (9, [.ref b, .int 12])), (b, .inl (cy 0, 300, .inl g8))] H := hP
  have hD : va_D A [(h, .inr (9, [.ref b, .int 12])), (b, .inl (cy 0, 300, .inl g8))] := hD
  refine lv_iinc (v := (-8)) (lv' := [(2, .int (-8)), (0, .ref h), (1, .int n)]) hx hb dX9_addBytesOf_43 hl (k := 0) rfl (by decide) (by decide) rfl (fun ls hl => ?_)
  refine lv_goto (tgt := 3) hx hb dX9_addBytesOf_46 (by decide) ?_
  refine lv_iload_n hx hb dX9_addBytesOf_3 rfl (lv_at hl 0 rfl) ?_
  refine lv_if_lt (tgt := 49) hx hb dX9_addBytesOf_4 (by decide) (fun _ => ?_) (fun c9 => absurd (by decide) c9)
  exact en_v hx hb hr hlocks g8 trivial (hP.sub [0, 1] rfl) (hD.sub [0, 1] (by decide) rfl) hS (Nat.le_of_ble_eq_true rfl) (Nat.le_of_ble_eq_true rfl) dX9_addBytesOf_49
set_option maxHeartbeats 4000000 in
set_option maxRecDepth 100000 in
theorem c_addBytes_12 (l : Launch) (D : va_G) (cy : Nat → ClassId) (h : Nat) (b : Nat) (f : Nat → Int32) (n : Int32) (sz : Nat) : Met l yX9_addBytesOf wsX9_addBytesOf ({ frames := 0, cells := 0, slots := 0, locals := 0 }) (wPre D cy [.ref h, .int n] sz [(h, .inr (9, [.ref b, .int 12])), (b, .inl (cy 0, 300, .inl f))]) (wQv D (fun _ : (Nat → Int32) => True) (fun u : (Nat → Int32) => [(h, .inr (9, [.ref b, .int 16])), (b, .inl (cy 0, 300, .inl u))]) (va_A [(h, .inr (9, [.ref b, .int 12])), (b, .inl (cy 0, 300, .inl f))] sz)) 0 0 (va_A [(h, .inr (9, [.ref b, .int 12])), (b, .inl (cy 0, 300, .inl f))] sz) := by
  refine met_go (y := yX9_addBytesOf) (ws := wsX9_addBytesOf) (av := [.ref h, .int n]) (cc := cX9_addBytesOf) (maxL := 3) (ret := none) (Qc := fun A => wQv D (fun _ : (Nat → Int32) => True) (fun u : (Nat → Int32) => [(h, .inr (9, [.ref b, .int 16])), (b, .inl (cy 0, 300, .inl u))]) A) (by decide) rfl (Nat.le_of_ble_eq_true rfl) ?_
  intro p e s m below meth c ls A hx hb hr hml hown hts hlocks hname hKX hP hD hA hS hl
  have hown : s.vm.findClass RX9 = some m.cls := hown
  have hl : lv_has ls 3 [(0, .ref h), (1, .int n)] := hl
  refine lv_bipush (v := 24) hx hb dX9_addBytesOf_0 (by decide) ?_
  refine lv_istore_n (lv' := [(2, .int 24), (0, .ref h), (1, .int n)]) hx hb dX9_addBytesOf_2 rfl hl (by decide) rfl (fun ls hl => ?_)
  refine lv_iload_n hx hb dX9_addBytesOf_3 rfl (lv_at hl 0 rfl) ?_
  refine lv_if_lt (tgt := 49) hx hb dX9_addBytesOf_4 (by decide) (fun c9 => absurd c9 (by decide)) (fun _ => ?_)
  refine lv_aload_n hx hb dX9_addBytesOf_7 rfl (lv_at hl 1 rfl) ?_
  refine va_get (D := D) (ci := 9) (v := .int 12) (C := RX9) (T := TX9) (N := 2) hx hb hts iw_X9_addBytesOf_X9 hown hKX.1 hP 0 rfl rfl 1 (by decide) (hts (.fieldLink RX9 15 "TrainFerry$Tape" "size" "I") (by decide +kernel)) (fun _ h9 => h9) rfl dX9_addBytesOf_8 ?_
  refine lv_sipush (v := 300) hx hb dX9_addBytesOf_11 (by decide) ?_
  refine lv_icmp_ge (tgt := 49) hx hb dX9_addBytesOf_14 (by decide) (fun c9 => absurd c9 (by decide)) (fun _ => ?_)
  refine lv_aload_n hx hb dX9_addBytesOf_17 rfl (lv_at hl 1 rfl) ?_
  refine va_get (D := D) (ci := 9) (v := .ref b) (C := RX9) (T := TX9) (N := 2) hx hb hts iw_X9_addBytesOf_X9 hown hKX.1 hP 0 rfl rfl 0 (by decide) (hts (.fieldLink RX9 9 "TrainFerry$Tape" "bytes" "[I") (by decide +kernel)) (fun _ h9 => h9) rfl dX9_addBytesOf_18 ?_
  refine lv_aload_n hx hb dX9_addBytesOf_21 rfl (lv_at hl 1 rfl) ?_
  refine va_get (D := D) (ci := 9) (v := .int 12) (C := RX9) (T := TX9) (N := 2) hx hb hts iw_X9_addBytesOf_X9 hown hKX.1 hP 0 rfl rfl 1 (by decide) (hts (.fieldLink RX9 15 "TrainFerry$Tape" "size" "I") (by decide +kernel)) (fun _ h9 => h9) rfl dX9_addBytesOf_22 ?_
  refine lv_iload_n hx hb dX9_addBytesOf_25 rfl (lv_at hl 2 rfl) ?_
  refine lv_iload_n hx hb dX9_addBytesOf_26 rfl (lv_at hl 0 rfl) ?_
  refine lv_iushr (v := _) hx hb dX9_addBytesOf_27 rfl ?_
  refine lv_topi (fun z1 _ => ?_)
  refine lv_sipush (v := 255) hx hb dX9_addBytesOf_28 (by decide) ?_
  refine lv_iand hx hb dX9_addBytesOf_31 ?_
  refine va_iast hx hb hKX.1 hP hD hS 1 0 rfl rfl (vind (by decide)) dX9_addBytesOf_32 (fun H locs hP hD hS => ?_)
  have hP : va_P D vwCl [(h, .inr (9, [.ref b, .int 12])), (b, .inl (cy 0, 300, .inl (upd f (Int32.toNatClampNeg 12) (z1 &&& 255))))] H := hP
  have hD : va_D A [(h, .inr (9, [.ref b, .int 12])), (b, .inl (cy 0, 300, .inl (upd f (Int32.toNatClampNeg 12) (z1 &&& 255))))] := hD
  generalize (upd f (Int32.toNatClampNeg 12) (z1 &&& 255) : Nat → Int32) = g2 at hP hD
  refine lv_aload_n hx hb dX9_addBytesOf_33 rfl (lv_at hl 1 rfl) ?_
  refine lv_dup hx hb dX9_addBytesOf_34 rfl ?_
  refine va_get (D := D) (ci := 9) (v := .int 12) (C := RX9) (T := TX9) (N := 2) hx hb hts iw_X9_addBytesOf_X9 hown hKX.1 hP 0 rfl rfl 1 (by decide) (hts (.fieldLink RX9 15 "TrainFerry$Tape" "size" "I") (by decide +kernel)) (fun _ h9 => h9) rfl dX9_addBytesOf_35 ?_
  refine lv_iconst (v := 1) hx hb dX9_addBytesOf_38 (by decide) ?_
  refine lv_iadd hx hb dX9_addBytesOf_39 ?_
  refine lv_cst 13 (by decide) ?_
  refine va_put (D := D) (ci := 9) (v := .int 13) (ty := .int) (C := RX9) (T := TX9) (N := 2) hx hb hts iw_X9_addBytesOf_X9 tyX9 tyX9_ok nmX9 hown hKX.1 hP hD hS 0 rfl rfl 1 (by decide) (hts (.fieldLink RX9 15 "TrainFerry$Tape" "size" "I") (by decide +kernel)) (fun _ h9 => h9) rfl (by decide +kernel) rfl rfl (Nat.le_of_ble_eq_true rfl) dX9_addBytesOf_40 (fun H locs hP hD hS => ?_)
  have hP : va_P D vwCl [(h, .inr (9, [.ref b, .int 13])), (b, .inl (cy 0, 300, .inl g2))] H := hP
  have hD : va_D A [(h, .inr (9, [.ref b, .int 13])), (b, .inl (cy 0, 300, .inl g2))] := hD
  refine lv_iinc (v := 16) (lv' := [(2, .int 16), (0, .ref h), (1, .int n)]) hx hb dX9_addBytesOf_43 hl (k := 0) rfl (by decide) (by decide) rfl (fun ls hl => ?_)
  refine lv_goto (tgt := 3) hx hb dX9_addBytesOf_46 (by decide) ?_
  refine lv_iload_n hx hb dX9_addBytesOf_3 rfl (lv_at hl 0 rfl) ?_
  refine lv_if_lt (tgt := 49) hx hb dX9_addBytesOf_4 (by decide) (fun c9 => absurd c9 (by decide)) (fun _ => ?_)
  refine lv_aload_n hx hb dX9_addBytesOf_7 rfl (lv_at hl 1 rfl) ?_
  refine va_get (D := D) (ci := 9) (v := .int 13) (C := RX9) (T := TX9) (N := 2) hx hb hts iw_X9_addBytesOf_X9 hown hKX.1 hP 0 rfl rfl 1 (by decide) (hts (.fieldLink RX9 15 "TrainFerry$Tape" "size" "I") (by decide +kernel)) (fun _ h9 => h9) rfl dX9_addBytesOf_8 ?_
  refine lv_sipush (v := 300) hx hb dX9_addBytesOf_11 (by decide) ?_
  refine lv_icmp_ge (tgt := 49) hx hb dX9_addBytesOf_14 (by decide) (fun c9 => absurd c9 (by decide)) (fun _ => ?_)
  refine lv_aload_n hx hb dX9_addBytesOf_17 rfl (lv_at hl 1 rfl) ?_
  refine va_get (D := D) (ci := 9) (v := .ref b) (C := RX9) (T := TX9) (N := 2) hx hb hts iw_X9_addBytesOf_X9 hown hKX.1 hP 0 rfl rfl 0 (by decide) (hts (.fieldLink RX9 9 "TrainFerry$Tape" "bytes" "[I") (by decide +kernel)) (fun _ h9 => h9) rfl dX9_addBytesOf_18 ?_
  refine lv_aload_n hx hb dX9_addBytesOf_21 rfl (lv_at hl 1 rfl) ?_
  refine va_get (D := D) (ci := 9) (v := .int 13) (C := RX9) (T := TX9) (N := 2) hx hb hts iw_X9_addBytesOf_X9 hown hKX.1 hP 0 rfl rfl 1 (by decide) (hts (.fieldLink RX9 15 "TrainFerry$Tape" "size" "I") (by decide +kernel)) (fun _ h9 => h9) rfl dX9_addBytesOf_22 ?_
  refine lv_iload_n hx hb dX9_addBytesOf_25 rfl (lv_at hl 2 rfl) ?_
  refine lv_iload_n hx hb dX9_addBytesOf_26 rfl (lv_at hl 0 rfl) ?_
  refine lv_iushr (v := _) hx hb dX9_addBytesOf_27 rfl ?_
  refine lv_topi (fun z3 _ => ?_)
  refine lv_sipush (v := 255) hx hb dX9_addBytesOf_28 (by decide) ?_
  refine lv_iand hx hb dX9_addBytesOf_31 ?_
  refine va_iast hx hb hKX.1 hP hD hS 1 0 rfl rfl (vind (by decide)) dX9_addBytesOf_32 (fun H locs hP hD hS => ?_)
  have hP : va_P D vwCl [(h, .inr (9, [.ref b, .int 13])), (b, .inl (cy 0, 300, .inl (upd g2 (Int32.toNatClampNeg 13) (z3 &&& 255))))] H := hP
  have hD : va_D A [(h, .inr (9, [.ref b, .int 13])), (b, .inl (cy 0, 300, .inl (upd g2 (Int32.toNatClampNeg 13) (z3 &&& 255))))] := hD
  generalize (upd g2 (Int32.toNatClampNeg 13) (z3 &&& 255) : Nat → Int32) = g4 at hP hD
  refine lv_aload_n hx hb dX9_addBytesOf_33 rfl (lv_at hl 1 rfl) ?_
  refine lv_dup hx hb dX9_addBytesOf_34 rfl ?_
  refine va_get (D := D) (ci := 9) (v := .int 13) (C := RX9) (T := TX9) (N := 2) hx hb hts iw_X9_addBytesOf_X9 hown hKX.1 hP 0 rfl rfl 1 (by decide) (hts (.fieldLink RX9 15 "TrainFerry$Tape" "size" "I") (by decide +kernel)) (fun _ h9 => h9) rfl dX9_addBytesOf_35 ?_
  refine lv_iconst (v := 1) hx hb dX9_addBytesOf_38 (by decide) ?_
  refine lv_iadd hx hb dX9_addBytesOf_39 ?_
  refine lv_cst 14 (by decide) ?_
  refine va_put (D := D) (ci := 9) (v := .int 14) (ty := .int) (C := RX9) (T := TX9) (N := 2) hx hb hts iw_X9_addBytesOf_X9 tyX9 tyX9_ok nmX9 hown hKX.1 hP hD hS 0 rfl rfl 1 (by decide) (hts (.fieldLink RX9 15 "TrainFerry$Tape" "size" "I") (by decide +kernel)) (fun _ h9 => h9) rfl (by decide +kernel) rfl rfl (Nat.le_of_ble_eq_true rfl) dX9_addBytesOf_40 (fun H locs hP hD hS => ?_)
  have hP : va_P D vwCl [(h, .inr (9, [.ref b, .int 14])), (b, .inl (cy 0, 300, .inl g4))] H := hP
  have hD : va_D A [(h, .inr (9, [.ref b, .int 14])), (b, .inl (cy 0, 300, .inl g4))] := hD
  refine lv_iinc (v := 8) (lv' := [(2, .int 8), (0, .ref h), (1, .int n)]) hx hb dX9_addBytesOf_43 hl (k := 0) rfl (by decide) (by decide) rfl (fun ls hl => ?_)
  refine lv_goto (tgt := 3) hx hb dX9_addBytesOf_46 (by decide) ?_
  refine lv_iload_n hx hb dX9_addBytesOf_3 rfl (lv_at hl 0 rfl) ?_
  refine lv_if_lt (tgt := 49) hx hb dX9_addBytesOf_4 (by decide) (fun c9 => absurd c9 (by decide)) (fun _ => ?_)
  refine lv_aload_n hx hb dX9_addBytesOf_7 rfl (lv_at hl 1 rfl) ?_
  refine va_get (D := D) (ci := 9) (v := .int 14) (C := RX9) (T := TX9) (N := 2) hx hb hts iw_X9_addBytesOf_X9 hown hKX.1 hP 0 rfl rfl 1 (by decide) (hts (.fieldLink RX9 15 "TrainFerry$Tape" "size" "I") (by decide +kernel)) (fun _ h9 => h9) rfl dX9_addBytesOf_8 ?_
  refine lv_sipush (v := 300) hx hb dX9_addBytesOf_11 (by decide) ?_
  refine lv_icmp_ge (tgt := 49) hx hb dX9_addBytesOf_14 (by decide) (fun c9 => absurd c9 (by decide)) (fun _ => ?_)
  refine lv_aload_n hx hb dX9_addBytesOf_17 rfl (lv_at hl 1 rfl) ?_
  refine va_get (D := D) (ci := 9) (v := .ref b) (C := RX9) (T := TX9) (N := 2) hx hb hts iw_X9_addBytesOf_X9 hown hKX.1 hP 0 rfl rfl 0 (by decide) (hts (.fieldLink RX9 9 "TrainFerry$Tape" "bytes" "[I") (by decide +kernel)) (fun _ h9 => h9) rfl dX9_addBytesOf_18 ?_
  refine lv_aload_n hx hb dX9_addBytesOf_21 rfl (lv_at hl 1 rfl) ?_
  refine va_get (D := D) (ci := 9) (v := .int 14) (C := RX9) (T := TX9) (N := 2) hx hb hts iw_X9_addBytesOf_X9 hown hKX.1 hP 0 rfl rfl 1 (by decide) (hts (.fieldLink RX9 15 "TrainFerry$Tape" "size" "I") (by decide +kernel)) (fun _ h9 => h9) rfl dX9_addBytesOf_22 ?_
  refine lv_iload_n hx hb dX9_addBytesOf_25 rfl (lv_at hl 2 rfl) ?_
  refine lv_iload_n hx hb dX9_addBytesOf_26 rfl (lv_at hl 0 rfl) ?_
  refine lv_iushr (v := _) hx hb dX9_addBytesOf_27 rfl ?_
  refine lv_topi (fun z5 _ => ?_)
  refine lv_sipush (v := 255) hx hb dX9_addBytesOf_28 (by decide) ?_
  refine lv_iand hx hb dX9_addBytesOf_31 ?_
  refine va_iast hx hb hKX.1 hP hD hS 1 0 rfl rfl (vind (by decide)) dX9_addBytesOf_32 (fun H locs hP hD hS => ?_)
  have hP : va_P D vwCl [(h, .inr (9, [.ref b, .int 14])), (b, .inl (cy 0, 300, .inl (upd g4 (Int32.toNatClampNeg 14) (z5 &&& 255))))] H := hP
  have hD : va_D A [(h, .inr (9, [.ref b, .int 14])), (b, .inl (cy 0, 300, .inl (upd g4 (Int32.toNatClampNeg 14) (z5 &&& 255))))] := hD
  generalize (upd g4 (Int32.toNatClampNeg 14) (z5 &&& 255) : Nat → Int32) = g6 at hP hD
  refine lv_aload_n hx hb dX9_addBytesOf_33 rfl (lv_at hl 1 rfl) ?_
  refine lv_dup hx hb dX9_addBytesOf_34 rfl ?_
  refine va_get (D := D) (ci := 9) (v := .int 14) (C := RX9) (T := TX9) (N := 2) hx hb hts iw_X9_addBytesOf_X9 hown hKX.1 hP 0 rfl rfl 1 (by decide) (hts (.fieldLink RX9 15 "TrainFerry$Tape" "size" "I") (by decide +kernel)) (fun _ h9 => h9) rfl dX9_addBytesOf_35 ?_
  refine lv_iconst (v := 1) hx hb dX9_addBytesOf_38 (by decide) ?_
  refine lv_iadd hx hb dX9_addBytesOf_39 ?_
  refine lv_cst 15 (by decide) ?_
  refine va_put (D := D) (ci := 9) (v := .int 15) (ty := .int) (C := RX9) (T := TX9) (N := 2) hx hb hts iw_X9_addBytesOf_X9 tyX9 tyX9_ok nmX9 hown hKX.1 hP hD hS 0 rfl rfl 1 (by decide) (hts (.fieldLink RX9 15 "TrainFerry$Tape" "size" "I") (by decide +kernel)) (fun _ h9 => h9) rfl (by decide +kernel) rfl rfl (Nat.le_of_ble_eq_true rfl) dX9_addBytesOf_40 (fun H locs hP hD hS => ?_)
  have hP : va_P D vwCl [(h, .inr (9, [.ref b, .int 15])), (b, .inl (cy 0, 300, .inl g6))] H := hP
  have hD : va_D A [(h, .inr (9, [.ref b, .int 15])), (b, .inl (cy 0, 300, .inl g6))] := hD
  refine lv_iinc (v := 0) (lv' := [(2, .int 0), (0, .ref h), (1, .int n)]) hx hb dX9_addBytesOf_43 hl (k := 0) rfl (by decide) (by decide) rfl (fun ls hl => ?_)
  refine lv_goto (tgt := 3) hx hb dX9_addBytesOf_46 (by decide) ?_
  refine lv_iload_n hx hb dX9_addBytesOf_3 rfl (lv_at hl 0 rfl) ?_
  refine lv_if_lt (tgt := 49) hx hb dX9_addBytesOf_4 (by decide) (fun c9 => absurd c9 (by decide)) (fun _ => ?_)
  refine lv_aload_n hx hb dX9_addBytesOf_7 rfl (lv_at hl 1 rfl) ?_
  refine va_get (D := D) (ci := 9) (v := .int 15) (C := RX9) (T := TX9) (N := 2) hx hb hts iw_X9_addBytesOf_X9 hown hKX.1 hP 0 rfl rfl 1 (by decide) (hts (.fieldLink RX9 15 "TrainFerry$Tape" "size" "I") (by decide +kernel)) (fun _ h9 => h9) rfl dX9_addBytesOf_8 ?_
  refine lv_sipush (v := 300) hx hb dX9_addBytesOf_11 (by decide) ?_
  refine lv_icmp_ge (tgt := 49) hx hb dX9_addBytesOf_14 (by decide) (fun c9 => absurd c9 (by decide)) (fun _ => ?_)
  refine lv_aload_n hx hb dX9_addBytesOf_17 rfl (lv_at hl 1 rfl) ?_
  refine va_get (D := D) (ci := 9) (v := .ref b) (C := RX9) (T := TX9) (N := 2) hx hb hts iw_X9_addBytesOf_X9 hown hKX.1 hP 0 rfl rfl 0 (by decide) (hts (.fieldLink RX9 9 "TrainFerry$Tape" "bytes" "[I") (by decide +kernel)) (fun _ h9 => h9) rfl dX9_addBytesOf_18 ?_
  refine lv_aload_n hx hb dX9_addBytesOf_21 rfl (lv_at hl 1 rfl) ?_
  refine va_get (D := D) (ci := 9) (v := .int 15) (C := RX9) (T := TX9) (N := 2) hx hb hts iw_X9_addBytesOf_X9 hown hKX.1 hP 0 rfl rfl 1 (by decide) (hts (.fieldLink RX9 15 "TrainFerry$Tape" "size" "I") (by decide +kernel)) (fun _ h9 => h9) rfl dX9_addBytesOf_22 ?_
  refine lv_iload_n hx hb dX9_addBytesOf_25 rfl (lv_at hl 2 rfl) ?_
  refine lv_iload_n hx hb dX9_addBytesOf_26 rfl (lv_at hl 0 rfl) ?_
  refine lv_iushr (v := _) hx hb dX9_addBytesOf_27 rfl ?_
  refine lv_topi (fun z7 _ => ?_)
  refine lv_sipush (v := 255) hx hb dX9_addBytesOf_28 (by decide) ?_
  refine lv_iand hx hb dX9_addBytesOf_31 ?_
  refine va_iast hx hb hKX.1 hP hD hS 1 0 rfl rfl (vind (by decide)) dX9_addBytesOf_32 (fun H locs hP hD hS => ?_)
  have hP : va_P D vwCl [(h, .inr (9, [.ref b, .int 15])), (b, .inl (cy 0, 300, .inl (upd g6 (Int32.toNatClampNeg 15) (z7 &&& 255))))] H := hP
  have hD : va_D A [(h, .inr (9, [.ref b, .int 15])), (b, .inl (cy 0, 300, .inl (upd g6 (Int32.toNatClampNeg 15) (z7 &&& 255))))] := hD
  generalize (upd g6 (Int32.toNatClampNeg 15) (z7 &&& 255) : Nat → Int32) = g8 at hP hD
  refine lv_aload_n hx hb dX9_addBytesOf_33 rfl (lv_at hl 1 rfl) ?_
  refine lv_dup hx hb dX9_addBytesOf_34 rfl ?_
  refine va_get (D := D) (ci := 9) (v := .int 15) (C := RX9) (T := TX9) (N := 2) hx hb hts iw_X9_addBytesOf_X9 hown hKX.1 hP 0 rfl rfl 1 (by decide) (hts (.fieldLink RX9 15 "TrainFerry$Tape" "size" "I") (by decide +kernel)) (fun _ h9 => h9) rfl dX9_addBytesOf_35 ?_
  refine lv_iconst (v := 1) hx hb dX9_addBytesOf_38 (by decide) ?_
  refine lv_iadd hx hb dX9_addBytesOf_39 ?_
  refine lv_cst 16 (by decide) ?_
  refine va_put (D := D) (ci := 9) (v := .int 16) (ty := .int) (C := RX9) (T := TX9) (N := 2) hx hb hts iw_X9_addBytesOf_X9 tyX9 tyX9_ok nmX9 hown hKX.1 hP hD hS 0 rfl rfl 1 (by decide) (hts (.fieldLink RX9 15 "TrainFerry$Tape" "size" "I") (by decide +kernel)) (fun _ h9 => h9) rfl (by decide +kernel) rfl rfl (Nat.le_of_ble_eq_true rfl) dX9_addBytesOf_40 (fun H locs hP hD hS => ?_)
  have hP : va_P D vwCl [(h, .inr (9, [.ref b, .int 16])), (b, .inl (cy 0, 300, .inl g8))] H := hP
  have hD : va_D A [(h, .inr (9, [.ref b, .int 16])), (b, .inl (cy 0, 300, .inl g8))] := hD
  refine lv_iinc (v := (-8)) (lv' := [(2, .int (-8)), (0, .ref h), (1, .int n)]) hx hb dX9_addBytesOf_43 hl (k := 0) rfl (by decide) (by decide) rfl (fun ls hl => ?_)
  refine lv_goto (tgt := 3) hx hb dX9_addBytesOf_46 (by decide) ?_
  refine lv_iload_n hx hb dX9_addBytesOf_3 rfl (lv_at hl 0 rfl) ?_
  refine lv_if_lt (tgt := 49) hx hb dX9_addBytesOf_4 (by decide) (fun _ => ?_) (fun c9 => absurd (by decide) c9)
  exact en_v hx hb hr hlocks g8 trivial (hP.sub [0, 1] rfl) (hD.sub [0, 1] (by decide) rfl) hS (Nat.le_of_ble_eq_true rfl) (Nat.le_of_ble_eq_true rfl) dX9_addBytesOf_49
set_option maxHeartbeats 4000000 in
set_option maxRecDepth 100000 in
theorem c_addBytes_16 (l : Launch) (D : va_G) (cy : Nat → ClassId) (h : Nat) (b : Nat) (f : Nat → Int32) (n : Int32) (sz : Nat) : Met l yX9_addBytesOf wsX9_addBytesOf ({ frames := 0, cells := 0, slots := 0, locals := 0 }) (wPre D cy [.ref h, .int n] sz [(h, .inr (9, [.ref b, .int 16])), (b, .inl (cy 0, 300, .inl f))]) (wQv D (fun _ : (Nat → Int32) => True) (fun u : (Nat → Int32) => [(h, .inr (9, [.ref b, .int 20])), (b, .inl (cy 0, 300, .inl u))]) (va_A [(h, .inr (9, [.ref b, .int 16])), (b, .inl (cy 0, 300, .inl f))] sz)) 0 0 (va_A [(h, .inr (9, [.ref b, .int 16])), (b, .inl (cy 0, 300, .inl f))] sz) := by
  refine met_go (y := yX9_addBytesOf) (ws := wsX9_addBytesOf) (av := [.ref h, .int n]) (cc := cX9_addBytesOf) (maxL := 3) (ret := none) (Qc := fun A => wQv D (fun _ : (Nat → Int32) => True) (fun u : (Nat → Int32) => [(h, .inr (9, [.ref b, .int 20])), (b, .inl (cy 0, 300, .inl u))]) A) (by decide) rfl (Nat.le_of_ble_eq_true rfl) ?_
  intro p e s m below meth c ls A hx hb hr hml hown hts hlocks hname hKX hP hD hA hS hl
  have hown : s.vm.findClass RX9 = some m.cls := hown
  have hl : lv_has ls 3 [(0, .ref h), (1, .int n)] := hl
  refine lv_bipush (v := 24) hx hb dX9_addBytesOf_0 (by decide) ?_
  refine lv_istore_n (lv' := [(2, .int 24), (0, .ref h), (1, .int n)]) hx hb dX9_addBytesOf_2 rfl hl (by decide) rfl (fun ls hl => ?_)
  refine lv_iload_n hx hb dX9_addBytesOf_3 rfl (lv_at hl 0 rfl) ?_
  refine lv_if_lt (tgt := 49) hx hb dX9_addBytesOf_4 (by decide) (fun c9 => absurd c9 (by decide)) (fun _ => ?_)
  refine lv_aload_n hx hb dX9_addBytesOf_7 rfl (lv_at hl 1 rfl) ?_
  refine va_get (D := D) (ci := 9) (v := .int 16) (C := RX9) (T := TX9) (N := 2) hx hb hts iw_X9_addBytesOf_X9 hown hKX.1 hP 0 rfl rfl 1 (by decide) (hts (.fieldLink RX9 15 "TrainFerry$Tape" "size" "I") (by decide +kernel)) (fun _ h9 => h9) rfl dX9_addBytesOf_8 ?_
  refine lv_sipush (v := 300) hx hb dX9_addBytesOf_11 (by decide) ?_
  refine lv_icmp_ge (tgt := 49) hx hb dX9_addBytesOf_14 (by decide) (fun c9 => absurd c9 (by decide)) (fun _ => ?_)
  refine lv_aload_n hx hb dX9_addBytesOf_17 rfl (lv_at hl 1 rfl) ?_
  refine va_get (D := D) (ci := 9) (v := .ref b) (C := RX9) (T := TX9) (N := 2) hx hb hts iw_X9_addBytesOf_X9 hown hKX.1 hP 0 rfl rfl 0 (by decide) (hts (.fieldLink RX9 9 "TrainFerry$Tape" "bytes" "[I") (by decide +kernel)) (fun _ h9 => h9) rfl dX9_addBytesOf_18 ?_
  refine lv_aload_n hx hb dX9_addBytesOf_21 rfl (lv_at hl 1 rfl) ?_
  refine va_get (D := D) (ci := 9) (v := .int 16) (C := RX9) (T := TX9) (N := 2) hx hb hts iw_X9_addBytesOf_X9 hown hKX.1 hP 0 rfl rfl 1 (by decide) (hts (.fieldLink RX9 15 "TrainFerry$Tape" "size" "I") (by decide +kernel)) (fun _ h9 => h9) rfl dX9_addBytesOf_22 ?_
  refine lv_iload_n hx hb dX9_addBytesOf_25 rfl (lv_at hl 2 rfl) ?_
  refine lv_iload_n hx hb dX9_addBytesOf_26 rfl (lv_at hl 0 rfl) ?_
  refine lv_iushr (v := _) hx hb dX9_addBytesOf_27 rfl ?_
  refine lv_topi (fun z1 _ => ?_)
  refine lv_sipush (v := 255) hx hb dX9_addBytesOf_28 (by decide) ?_
  refine lv_iand hx hb dX9_addBytesOf_31 ?_
  refine va_iast hx hb hKX.1 hP hD hS 1 0 rfl rfl (vind (by decide)) dX9_addBytesOf_32 (fun H locs hP hD hS => ?_)
  have hP : va_P D vwCl [(h, .inr (9, [.ref b, .int 16])), (b, .inl (cy 0, 300, .inl (upd f (Int32.toNatClampNeg 16) (z1 &&& 255))))] H := hP
  have hD : va_D A [(h, .inr (9, [.ref b, .int 16])), (b, .inl (cy 0, 300, .inl (upd f (Int32.toNatClampNeg 16) (z1 &&& 255))))] := hD
  generalize (upd f (Int32.toNatClampNeg 16) (z1 &&& 255) : Nat → Int32) = g2 at hP hD
  refine lv_aload_n hx hb dX9_addBytesOf_33 rfl (lv_at hl 1 rfl) ?_
  refine lv_dup hx hb dX9_addBytesOf_34 rfl ?_
  refine va_get (D := D) (ci := 9) (v := .int 16) (C := RX9) (T := TX9) (N := 2) hx hb hts iw_X9_addBytesOf_X9 hown hKX.1 hP 0 rfl rfl 1 (by decide) (hts (.fieldLink RX9 15 "TrainFerry$Tape" "size" "I") (by decide +kernel)) (fun _ h9 => h9) rfl dX9_addBytesOf_35 ?_
  refine lv_iconst (v := 1) hx hb dX9_addBytesOf_38 (by decide) ?_
  refine lv_iadd hx hb dX9_addBytesOf_39 ?_
  refine lv_cst 17 (by decide) ?_
  refine va_put (D := D) (ci := 9) (v := .int 17) (ty := .int) (C := RX9) (T := TX9) (N := 2) hx hb hts iw_X9_addBytesOf_X9 tyX9 tyX9_ok nmX9 hown hKX.1 hP hD hS 0 rfl rfl 1 (by decide) (hts (.fieldLink RX9 15 "TrainFerry$Tape" "size" "I") (by decide +kernel)) (fun _ h9 => h9) rfl (by decide +kernel) rfl rfl (Nat.le_of_ble_eq_true rfl) dX9_addBytesOf_40 (fun H locs hP hD hS => ?_)
  have hP : va_P D vwCl [(h, .inr (9, [.ref b, .int 17])), (b, .inl (cy 0, 300, .inl g2))] H := hP
  have hD : va_D A [(h, .inr (9, [.ref b, .int 17])), (b, .inl (cy 0, 300, .inl g2))] := hD
  refine lv_iinc (v := 16) (lv' := [(2, .int 16), (0, .ref h), (1, .int n)]) hx hb dX9_addBytesOf_43 hl (k := 0) rfl (by decide) (by decide) rfl (fun ls hl => ?_)
  refine lv_goto (tgt := 3) hx hb dX9_addBytesOf_46 (by decide) ?_
  refine lv_iload_n hx hb dX9_addBytesOf_3 rfl (lv_at hl 0 rfl) ?_
  refine lv_if_lt (tgt := 49) hx hb dX9_addBytesOf_4 (by decide) (fun c9 => absurd c9 (by decide)) (fun _ => ?_)
  refine lv_aload_n hx hb dX9_addBytesOf_7 rfl (lv_at hl 1 rfl) ?_
  refine va_get (D := D) (ci := 9) (v := .int 17) (C := RX9) (T := TX9) (N := 2) hx hb hts iw_X9_addBytesOf_X9 hown hKX.1 hP 0 rfl rfl 1 (by decide) (hts (.fieldLink RX9 15 "TrainFerry$Tape" "size" "I") (by decide +kernel)) (fun _ h9 => h9) rfl dX9_addBytesOf_8 ?_
  refine lv_sipush (v := 300) hx hb dX9_addBytesOf_11 (by decide) ?_
  refine lv_icmp_ge (tgt := 49) hx hb dX9_addBytesOf_14 (by decide) (fun c9 => absurd c9 (by decide)) (fun _ => ?_)
  refine lv_aload_n hx hb dX9_addBytesOf_17 rfl (lv_at hl 1 rfl) ?_
  refine va_get (D := D) (ci := 9) (v := .ref b) (C := RX9) (T := TX9) (N := 2) hx hb hts iw_X9_addBytesOf_X9 hown hKX.1 hP 0 rfl rfl 0 (by decide) (hts (.fieldLink RX9 9 "TrainFerry$Tape" "bytes" "[I") (by decide +kernel)) (fun _ h9 => h9) rfl dX9_addBytesOf_18 ?_
  refine lv_aload_n hx hb dX9_addBytesOf_21 rfl (lv_at hl 1 rfl) ?_
  refine va_get (D := D) (ci := 9) (v := .int 17) (C := RX9) (T := TX9) (N := 2) hx hb hts iw_X9_addBytesOf_X9 hown hKX.1 hP 0 rfl rfl 1 (by decide) (hts (.fieldLink RX9 15 "TrainFerry$Tape" "size" "I") (by decide +kernel)) (fun _ h9 => h9) rfl dX9_addBytesOf_22 ?_
  refine lv_iload_n hx hb dX9_addBytesOf_25 rfl (lv_at hl 2 rfl) ?_
  refine lv_iload_n hx hb dX9_addBytesOf_26 rfl (lv_at hl 0 rfl) ?_
  refine lv_iushr (v := _) hx hb dX9_addBytesOf_27 rfl ?_
  refine lv_topi (fun z3 _ => ?_)
  refine lv_sipush (v := 255) hx hb dX9_addBytesOf_28 (by decide) ?_
  refine lv_iand hx hb dX9_addBytesOf_31 ?_
  refine va_iast hx hb hKX.1 hP hD hS 1 0 rfl rfl (vind (by decide)) dX9_addBytesOf_32 (fun H locs hP hD hS => ?_)
  have hP : va_P D vwCl [(h, .inr (9, [.ref b, .int 17])), (b, .inl (cy 0, 300, .inl (upd g2 (Int32.toNatClampNeg 17) (z3 &&& 255))))] H := hP
  have hD : va_D A [(h, .inr (9, [.ref b, .int 17])), (b, .inl (cy 0, 300, .inl (upd g2 (Int32.toNatClampNeg 17) (z3 &&& 255))))] := hD
  generalize (upd g2 (Int32.toNatClampNeg 17) (z3 &&& 255) : Nat → Int32) = g4 at hP hD
  refine lv_aload_n hx hb dX9_addBytesOf_33 rfl (lv_at hl 1 rfl) ?_
  refine lv_dup hx hb dX9_addBytesOf_34 rfl ?_
  refine va_get (D := D) (ci := 9) (v := .int 17) (C := RX9) (T := TX9) (N := 2) hx hb hts iw_X9_addBytesOf_X9 hown hKX.1 hP 0 rfl rfl 1 (by decide) (hts (.fieldLink RX9 15 "TrainFerry$Tape" "size" "I") (by decide +kernel)) (fun _ h9 => h9) rfl dX9_addBytesOf_35 ?_
  refine lv_iconst (v := 1) hx hb dX9_addBytesOf_38 (by decide) ?_
  refine lv_iadd hx hb dX9_addBytesOf_39 ?_
  refine lv_cst 18 (by decide) ?_
  refine va_put (D := D) (ci := 9) (v := .int 18) (ty := .int) (C := RX9) (T := TX9) (N := 2) hx hb hts iw_X9_addBytesOf_X9 tyX9 tyX9_ok nmX9 hown hKX.1 hP hD hS 0 rfl rfl 1 (by decide) (hts (.fieldLink RX9 15 "TrainFerry$Tape" "size" "I") (by decide +kernel)) (fun _ h9 => h9) rfl (by decide +kernel) rfl rfl (Nat.le_of_ble_eq_true rfl) dX9_addBytesOf_40 (fun H locs hP hD hS => ?_)
  have hP : va_P D vwCl [(h, .inr (9, [.ref b, .int 18])), (b, .inl (cy 0, 300, .inl g4))] H := hP
  have hD : va_D A [(h, .inr (9, [.ref b, .int 18])), (b, .inl (cy 0, 300, .inl g4))] := hD
  refine lv_iinc (v := 8) (lv' := [(2, .int 8), (0, .ref h), (1, .int n)]) hx hb dX9_addBytesOf_43 hl (k := 0) rfl (by decide) (by decide) rfl (fun ls hl => ?_)
  refine lv_goto (tgt := 3) hx hb dX9_addBytesOf_46 (by decide) ?_
  refine lv_iload_n hx hb dX9_addBytesOf_3 rfl (lv_at hl 0 rfl) ?_
  refine lv_if_lt (tgt := 49) hx hb dX9_addBytesOf_4 (by decide) (fun c9 => absurd c9 (by decide)) (fun _ => ?_)
  refine lv_aload_n hx hb dX9_addBytesOf_7 rfl (lv_at hl 1 rfl) ?_
  refine va_get (D := D) (ci := 9) (v := .int 18) (C := RX9) (T := TX9) (N := 2) hx hb hts iw_X9_addBytesOf_X9 hown hKX.1 hP 0 rfl rfl 1 (by decide) (hts (.fieldLink RX9 15 "TrainFerry$Tape" "size" "I") (by decide +kernel)) (fun _ h9 => h9) rfl dX9_addBytesOf_8 ?_
  refine lv_sipush (v := 300) hx hb dX9_addBytesOf_11 (by decide) ?_
  refine lv_icmp_ge (tgt := 49) hx hb dX9_addBytesOf_14 (by decide) (fun c9 => absurd c9 (by decide)) (fun _ => ?_)
  refine lv_aload_n hx hb dX9_addBytesOf_17 rfl (lv_at hl 1 rfl) ?_
  refine va_get (D := D) (ci := 9) (v := .ref b) (C := RX9) (T := TX9) (N := 2) hx hb hts iw_X9_addBytesOf_X9 hown hKX.1 hP 0 rfl rfl 0 (by decide) (hts (.fieldLink RX9 9 "TrainFerry$Tape" "bytes" "[I") (by decide +kernel)) (fun _ h9 => h9) rfl dX9_addBytesOf_18 ?_
  refine lv_aload_n hx hb dX9_addBytesOf_21 rfl (lv_at hl 1 rfl) ?_
  refine va_get (D := D) (ci := 9) (v := .int 18) (C := RX9) (T := TX9) (N := 2) hx hb hts iw_X9_addBytesOf_X9 hown hKX.1 hP 0 rfl rfl 1 (by decide) (hts (.fieldLink RX9 15 "TrainFerry$Tape" "size" "I") (by decide +kernel)) (fun _ h9 => h9) rfl dX9_addBytesOf_22 ?_
  refine lv_iload_n hx hb dX9_addBytesOf_25 rfl (lv_at hl 2 rfl) ?_
  refine lv_iload_n hx hb dX9_addBytesOf_26 rfl (lv_at hl 0 rfl) ?_
  refine lv_iushr (v := _) hx hb dX9_addBytesOf_27 rfl ?_
  refine lv_topi (fun z5 _ => ?_)
  refine lv_sipush (v := 255) hx hb dX9_addBytesOf_28 (by decide) ?_
  refine lv_iand hx hb dX9_addBytesOf_31 ?_
  refine va_iast hx hb hKX.1 hP hD hS 1 0 rfl rfl (vind (by decide)) dX9_addBytesOf_32 (fun H locs hP hD hS => ?_)
  have hP : va_P D vwCl [(h, .inr (9, [.ref b, .int 18])), (b, .inl (cy 0, 300, .inl (upd g4 (Int32.toNatClampNeg 18) (z5 &&& 255))))] H := hP
  have hD : va_D A [(h, .inr (9, [.ref b, .int 18])), (b, .inl (cy 0, 300, .inl (upd g4 (Int32.toNatClampNeg 18) (z5 &&& 255))))] := hD
  generalize (upd g4 (Int32.toNatClampNeg 18) (z5 &&& 255) : Nat → Int32) = g6 at hP hD
  refine lv_aload_n hx hb dX9_addBytesOf_33 rfl (lv_at hl 1 rfl) ?_
  refine lv_dup hx hb dX9_addBytesOf_34 rfl ?_
  refine va_get (D := D) (ci := 9) (v := .int 18) (C := RX9) (T := TX9) (N := 2) hx hb hts iw_X9_addBytesOf_X9 hown hKX.1 hP 0 rfl rfl 1 (by decide) (hts (.fieldLink RX9 15 "TrainFerry$Tape" "size" "I") (by decide +kernel)) (fun _ h9 => h9) rfl dX9_addBytesOf_35 ?_
  refine lv_iconst (v := 1) hx hb dX9_addBytesOf_38 (by decide) ?_
  refine lv_iadd hx hb dX9_addBytesOf_39 ?_
  refine lv_cst 19 (by decide) ?_
  refine va_put (D := D) (ci := 9) (v := .int 19) (ty := .int) (C := RX9) (T := TX9) (N := 2) hx hb hts iw_X9_addBytesOf_X9 tyX9 tyX9_ok nmX9 hown hKX.1 hP hD hS 0 rfl rfl 1 (by decide) (hts (.fieldLink RX9 15 "TrainFerry$Tape" "size" "I") (by decide +kernel)) (fun _ h9 => h9) rfl (by decide +kernel) rfl rfl (Nat.le_of_ble_eq_true rfl) dX9_addBytesOf_40 (fun H locs hP hD hS => ?_)
  have hP : va_P D vwCl [(h, .inr (9, [.ref b, .int 19])), (b, .inl (cy 0, 300, .inl g6))] H := hP
  have hD : va_D A [(h, .inr (9, [.ref b, .int 19])), (b, .inl (cy 0, 300, .inl g6))] := hD
  refine lv_iinc (v := 0) (lv' := [(2, .int 0), (0, .ref h), (1, .int n)]) hx hb dX9_addBytesOf_43 hl (k := 0) rfl (by decide) (by decide) rfl (fun ls hl => ?_)
  refine lv_goto (tgt := 3) hx hb dX9_addBytesOf_46 (by decide) ?_
  refine lv_iload_n hx hb dX9_addBytesOf_3 rfl (lv_at hl 0 rfl) ?_
  refine lv_if_lt (tgt := 49) hx hb dX9_addBytesOf_4 (by decide) (fun c9 => absurd c9 (by decide)) (fun _ => ?_)
  refine lv_aload_n hx hb dX9_addBytesOf_7 rfl (lv_at hl 1 rfl) ?_
  refine va_get (D := D) (ci := 9) (v := .int 19) (C := RX9) (T := TX9) (N := 2) hx hb hts iw_X9_addBytesOf_X9 hown hKX.1 hP 0 rfl rfl 1 (by decide) (hts (.fieldLink RX9 15 "TrainFerry$Tape" "size" "I") (by decide +kernel)) (fun _ h9 => h9) rfl dX9_addBytesOf_8 ?_
  refine lv_sipush (v := 300) hx hb dX9_addBytesOf_11 (by decide) ?_
  refine lv_icmp_ge (tgt := 49) hx hb dX9_addBytesOf_14 (by decide) (fun c9 => absurd c9 (by decide)) (fun _ => ?_)
  refine lv_aload_n hx hb dX9_addBytesOf_17 rfl (lv_at hl 1 rfl) ?_
  refine va_get (D := D) (ci := 9) (v := .ref b) (C := RX9) (T := TX9) (N := 2) hx hb hts iw_X9_addBytesOf_X9 hown hKX.1 hP 0 rfl rfl 0 (by decide) (hts (.fieldLink RX9 9 "TrainFerry$Tape" "bytes" "[I") (by decide +kernel)) (fun _ h9 => h9) rfl dX9_addBytesOf_18 ?_
  refine lv_aload_n hx hb dX9_addBytesOf_21 rfl (lv_at hl 1 rfl) ?_
  refine va_get (D := D) (ci := 9) (v := .int 19) (C := RX9) (T := TX9) (N := 2) hx hb hts iw_X9_addBytesOf_X9 hown hKX.1 hP 0 rfl rfl 1 (by decide) (hts (.fieldLink RX9 15 "TrainFerry$Tape" "size" "I") (by decide +kernel)) (fun _ h9 => h9) rfl dX9_addBytesOf_22 ?_
  refine lv_iload_n hx hb dX9_addBytesOf_25 rfl (lv_at hl 2 rfl) ?_
  refine lv_iload_n hx hb dX9_addBytesOf_26 rfl (lv_at hl 0 rfl) ?_
  refine lv_iushr (v := _) hx hb dX9_addBytesOf_27 rfl ?_
  refine lv_topi (fun z7 _ => ?_)
  refine lv_sipush (v := 255) hx hb dX9_addBytesOf_28 (by decide) ?_
  refine lv_iand hx hb dX9_addBytesOf_31 ?_
  refine va_iast hx hb hKX.1 hP hD hS 1 0 rfl rfl (vind (by decide)) dX9_addBytesOf_32 (fun H locs hP hD hS => ?_)
  have hP : va_P D vwCl [(h, .inr (9, [.ref b, .int 19])), (b, .inl (cy 0, 300, .inl (upd g6 (Int32.toNatClampNeg 19) (z7 &&& 255))))] H := hP
  have hD : va_D A [(h, .inr (9, [.ref b, .int 19])), (b, .inl (cy 0, 300, .inl (upd g6 (Int32.toNatClampNeg 19) (z7 &&& 255))))] := hD
  generalize (upd g6 (Int32.toNatClampNeg 19) (z7 &&& 255) : Nat → Int32) = g8 at hP hD
  refine lv_aload_n hx hb dX9_addBytesOf_33 rfl (lv_at hl 1 rfl) ?_
  refine lv_dup hx hb dX9_addBytesOf_34 rfl ?_
  refine va_get (D := D) (ci := 9) (v := .int 19) (C := RX9) (T := TX9) (N := 2) hx hb hts iw_X9_addBytesOf_X9 hown hKX.1 hP 0 rfl rfl 1 (by decide) (hts (.fieldLink RX9 15 "TrainFerry$Tape" "size" "I") (by decide +kernel)) (fun _ h9 => h9) rfl dX9_addBytesOf_35 ?_
  refine lv_iconst (v := 1) hx hb dX9_addBytesOf_38 (by decide) ?_
  refine lv_iadd hx hb dX9_addBytesOf_39 ?_
  refine lv_cst 20 (by decide) ?_
  refine va_put (D := D) (ci := 9) (v := .int 20) (ty := .int) (C := RX9) (T := TX9) (N := 2) hx hb hts iw_X9_addBytesOf_X9 tyX9 tyX9_ok nmX9 hown hKX.1 hP hD hS 0 rfl rfl 1 (by decide) (hts (.fieldLink RX9 15 "TrainFerry$Tape" "size" "I") (by decide +kernel)) (fun _ h9 => h9) rfl (by decide +kernel) rfl rfl (Nat.le_of_ble_eq_true rfl) dX9_addBytesOf_40 (fun H locs hP hD hS => ?_)
  have hP : va_P D vwCl [(h, .inr (9, [.ref b, .int 20])), (b, .inl (cy 0, 300, .inl g8))] H := hP
  have hD : va_D A [(h, .inr (9, [.ref b, .int 20])), (b, .inl (cy 0, 300, .inl g8))] := hD
  refine lv_iinc (v := (-8)) (lv' := [(2, .int (-8)), (0, .ref h), (1, .int n)]) hx hb dX9_addBytesOf_43 hl (k := 0) rfl (by decide) (by decide) rfl (fun ls hl => ?_)
  refine lv_goto (tgt := 3) hx hb dX9_addBytesOf_46 (by decide) ?_
  refine lv_iload_n hx hb dX9_addBytesOf_3 rfl (lv_at hl 0 rfl) ?_
  refine lv_if_lt (tgt := 49) hx hb dX9_addBytesOf_4 (by decide) (fun _ => ?_) (fun c9 => absurd (by decide) c9)
  exact en_v hx hb hr hlocks g8 trivial (hP.sub [0, 1] rfl) (hD.sub [0, 1] (by decide) rfl) hS (Nat.le_of_ble_eq_true rfl) (Nat.le_of_ble_eq_true rfl) dX9_addBytesOf_49
theorem iw_X11_feed_X11 : ∀ w ∈ wsX110, w ∈ wsX11_feed := by decide +kernel
theorem iw_X11_feed_X1 : ∀ w ∈ wsX10, w ∈ wsX11_feed := by decide +kernel
theorem iw_X11_feed_X9 : ∀ w ∈ wsX90, w ∈ wsX11_feed := by decide +kernel
set_option maxHeartbeats 4000000 in
set_option maxRecDepth 100000 in
theorem c_feed (l : Launch) (D : va_G) (cy : Nat → ClassId) (xh : Nat) (xq : Nat → Nat) (xa : Int32) (xb : Int32) (xc : Int32) (xd : Int32) (xe : Int32) (sz : Nat) : Met l yX11_feed wsX11_feed ({ frames := 1, cells := 0, slots := 0, locals := 22 }) (wPre D cy [.ref xh, .int xa, .int xb, .int xc, .int xd, .int xe] sz [(xc0 cy xh xq), (xc40 cy xh xq), (xc41 cy xh xq), (xc42 cy xh xq)]) (wQi D 20 (fun _ : Unit => True) (fun _u : Unit => []) (va_A [(xc0 cy xh xq), (xc40 cy xh xq), (xc41 cy xh xq), (xc42 cy xh xq)] sz)) 0 0 (va_A [(xc0 cy xh xq), (xc40 cy xh xq), (xc41 cy xh xq), (xc42 cy xh xq)] sz) := by
  refine met_go (y := yX11_feed) (ws := wsX11_feed) (av := [.ref xh, .int xa, .int xb, .int xc, .int xd, .int xe]) (cc := cX11_feed) (maxL := 7) (ret := (some .int)) (Qc := fun A => wQi D 20 (fun _ : Unit => True) (fun _u : Unit => []) A) (by decide) rfl (Nat.le_of_ble_eq_true rfl) ?_
  intro p e s m below meth c ls A hx hb hr hml hown hts hlocks hname hKX hP hD hA hS hl
  have hown : s.vm.findClass RX11 = some m.cls := hown
  have hl : lv_has ls 7 [(0, .ref xh), (1, .int xa), (2, .int xb), (3, .int xc), (4, .int xd), (5, .int xe)] := hl
  refine lv_aload_n hx hb dX11_feed_0 rfl (lv_at hl 0 rfl) ?_
  refine va_get (D := D) (ci := 11) (v := .ref (xq 39)) (C := RX11) (T := TX11) (N := 18) hx hb hts iw_X11_feed_X11 hown hKX.1 hP 0 rfl rfl 3 (by decide) (hts (.fieldLink RX11 32 "TrainFerry" "reader" "LTrainFerry$AgreementReader;") (by decide +kernel)) (fun _ h9 => h9) rfl dX11_feed_1 ?_
  refine va_get (D := D) (ci := 1) (v := .ref (xq 40)) (C := RX1) (T := TX1) (N := 6) hx hb hts iw_X11_feed_X1 hown hKX.1 hP 1 rfl rfl 0 (by decide) (hts (.fieldLink RX11 156 "TrainFerry$AgreementReader" "tape" "LTrainFerry$Tape;") (by decide +kernel)) (fun _ h9 => h9) rfl dX11_feed_4 ?_
  refine lv_astore (lv' := [(6, .ref (xq 40)), (0, .ref xh), (1, .int xa), (2, .int xb), (3, .int xc), (4, .int xd), (5, .int xe)]) hx hb dX11_feed_7 hl (by decide) rfl (fun ls hl => ?_)
  refine lv_aload hx hb dX11_feed_9 (lv_at hl 0 rfl) ?_
  refine va_get (D := D) (ci := 9) (v := .int 0) (C := RX9) (T := TX9) (N := 2) hx hb hts iw_X11_feed_X9 hown hKX.1 hP 2 rfl rfl 1 (by decide) (hts (.fieldLink RX11 160 "TrainFerry$Tape" "size" "I") (by decide +kernel)) (fun _ h9 => h9) rfl dX11_feed_11 ?_
  refine lv_bipush (v := 20) hx hb dX11_feed_14 (by decide) ?_
  refine lv_iadd hx hb dX11_feed_16 ?_
  refine lv_cst 20 (by decide) ?_
  refine lv_sipush (v := 300) hx hb dX11_feed_17 (by decide) ?_
  refine lv_icmp_le (tgt := 25) hx hb dX11_feed_20 (by decide) (fun _ => ?_) (fun c9 => absurd (by decide) c9)
  refine lv_aload hx hb dX11_feed_25 (lv_at hl 0 rfl) ?_
  refine lv_iload_n hx hb dX11_feed_27 rfl (lv_at hl 2 rfl) ?_
  refine cl_v (wr := [(xc0 cy xh xq), (xc40 cy xh xq)]) (va_runV (As := [.int xa]) (rest := []) ⟨hx, hb, hml, hown, hts⟩ (c_addBytes_0 l D cy (xq 40) (xq 41) (fun _ => 0) xa _) (cwV 1 hts gX11_feed_X9_addBytesOf rfl rfl rfl (by decide +kernel) ⟨(Nat.le_of_ble_eq_true rfl), (Nat.le_of_ble_eq_true rfl)⟩) (pre_V hKX hP hD (ci := 9) (q0 := 2) rfl rfl [2, 3] rfl (by decide) rfl) rfl rfl hl.1 rfl (lv_room (Nat.le_of_ble_eq_true rfl)) dX11_feed_28 ⟨(Nat.le_of_ble_eq_true rfl), (Nat.le_of_ble_eq_true rfl)⟩) hP hD hS hA [2, 3] [0, 1] rfl rfl (by decide) (by decide) (fun u1 H locs _ hP hD hS => ?_)
  have hP : va_P D vwCl [(xc0 cy xh xq), (xc40 cy xh xq), ((xq 40), .inr (9, [.ref (xq 41), .int 4])), ((xq 41), .inl (cy 0, 300, .inl u1))] H := hP
  have hD : va_D A [(xc0 cy xh xq), (xc40 cy xh xq), ((xq 40), .inr (9, [.ref (xq 41), .int 4])), ((xq 41), .inl (cy 0, 300, .inl u1))] := hD
  refine lv_aload hx hb dX11_feed_31 (lv_at hl 0 rfl) ?_
  refine lv_iload_n hx hb dX11_feed_33 rfl (lv_at hl 3 rfl) ?_
  refine cl_v (wr := [(xc0 cy xh xq), (xc40 cy xh xq)]) (va_runV (As := [.int xb]) (rest := []) ⟨hx, hb, hml, hown, hts⟩ (c_addBytes_4 l D cy (xq 40) (xq 41) u1 xb _) (cwV 1 hts gX11_feed_X9_addBytesOf rfl rfl rfl (by decide +kernel) ⟨(Nat.le_of_ble_eq_true rfl), (Nat.le_of_ble_eq_true rfl)⟩) (pre_V hKX hP hD (ci := 9) (q0 := 2) rfl rfl [2, 3] rfl (by decide) rfl) rfl rfl hl.1 rfl (lv_room (Nat.le_of_ble_eq_true rfl)) dX11_feed_34 ⟨(Nat.le_of_ble_eq_true rfl), (Nat.le_of_ble_eq_true rfl)⟩) hP hD hS hA [2, 3] [0, 1] rfl rfl (by decide) (by decide) (fun u2 H locs _ hP hD hS => ?_)
  have hP : va_P D vwCl [(xc0 cy xh xq), (xc40 cy xh xq), ((xq 40), .inr (9, [.ref (xq 41), .int 8])), ((xq 41), .inl (cy 0, 300, .inl u2))] H := hP
  have hD : va_D A [(xc0 cy xh xq), (xc40 cy xh xq), ((xq 40), .inr (9, [.ref (xq 41), .int 8])), ((xq 41), .inl (cy 0, 300, .inl u2))] := hD
  refine lv_aload hx hb dX11_feed_37 (lv_at hl 0 rfl) ?_
  refine lv_iload_n hx hb dX11_feed_39 rfl (lv_at hl 4 rfl) ?_
  refine cl_v (wr := [(xc0 cy xh xq), (xc40 cy xh xq)]) (va_runV (As := [.int xc]) (rest := []) ⟨hx, hb, hml, hown, hts⟩ (c_addBytes_8 l D cy (xq 40) (xq 41) u2 xc _) (cwV 1 hts gX11_feed_X9_addBytesOf rfl rfl rfl (by decide +kernel) ⟨(Nat.le_of_ble_eq_true rfl), (Nat.le_of_ble_eq_true rfl)⟩) (pre_V hKX hP hD (ci := 9) (q0 := 2) rfl rfl [2, 3] rfl (by decide) rfl) rfl rfl hl.1 rfl (lv_room (Nat.le_of_ble_eq_true rfl)) dX11_feed_40 ⟨(Nat.le_of_ble_eq_true rfl), (Nat.le_of_ble_eq_true rfl)⟩) hP hD hS hA [2, 3] [0, 1] rfl rfl (by decide) (by decide) (fun u3 H locs _ hP hD hS => ?_)
  have hP : va_P D vwCl [(xc0 cy xh xq), (xc40 cy xh xq), ((xq 40), .inr (9, [.ref (xq 41), .int 12])), ((xq 41), .inl (cy 0, 300, .inl u3))] H := hP
  have hD : va_D A [(xc0 cy xh xq), (xc40 cy xh xq), ((xq 40), .inr (9, [.ref (xq 41), .int 12])), ((xq 41), .inl (cy 0, 300, .inl u3))] := hD
  refine lv_aload hx hb dX11_feed_43 (lv_at hl 0 rfl) ?_
  refine lv_iload hx hb dX11_feed_45 (lv_at hl 5 rfl) ?_
  refine cl_v (wr := [(xc0 cy xh xq), (xc40 cy xh xq)]) (va_runV (As := [.int xd]) (rest := []) ⟨hx, hb, hml, hown, hts⟩ (c_addBytes_12 l D cy (xq 40) (xq 41) u3 xd _) (cwV 1 hts gX11_feed_X9_addBytesOf rfl rfl rfl (by decide +kernel) ⟨(Nat.le_of_ble_eq_true rfl), (Nat.le_of_ble_eq_true rfl)⟩) (pre_V hKX hP hD (ci := 9) (q0 := 2) rfl rfl [2, 3] rfl (by decide) rfl) rfl rfl hl.1 rfl (lv_room (Nat.le_of_ble_eq_true rfl)) dX11_feed_47 ⟨(Nat.le_of_ble_eq_true rfl), (Nat.le_of_ble_eq_true rfl)⟩) hP hD hS hA [2, 3] [0, 1] rfl rfl (by decide) (by decide) (fun u4 H locs _ hP hD hS => ?_)
  have hP : va_P D vwCl [(xc0 cy xh xq), (xc40 cy xh xq), ((xq 40), .inr (9, [.ref (xq 41), .int 16])), ((xq 41), .inl (cy 0, 300, .inl u4))] H := hP
  have hD : va_D A [(xc0 cy xh xq), (xc40 cy xh xq), ((xq 40), .inr (9, [.ref (xq 41), .int 16])), ((xq 41), .inl (cy 0, 300, .inl u4))] := hD
  refine lv_aload hx hb dX11_feed_50 (lv_at hl 0 rfl) ?_
  refine lv_iload hx hb dX11_feed_52 (lv_at hl 6 rfl) ?_
  refine cl_v (wr := [(xc0 cy xh xq), (xc40 cy xh xq)]) (va_runV (As := [.int xe]) (rest := []) ⟨hx, hb, hml, hown, hts⟩ (c_addBytes_16 l D cy (xq 40) (xq 41) u4 xe _) (cwV 1 hts gX11_feed_X9_addBytesOf rfl rfl rfl (by decide +kernel) ⟨(Nat.le_of_ble_eq_true rfl), (Nat.le_of_ble_eq_true rfl)⟩) (pre_V hKX hP hD (ci := 9) (q0 := 2) rfl rfl [2, 3] rfl (by decide) rfl) rfl rfl hl.1 rfl (lv_room (Nat.le_of_ble_eq_true rfl)) dX11_feed_54 ⟨(Nat.le_of_ble_eq_true rfl), (Nat.le_of_ble_eq_true rfl)⟩) hP hD hS hA [2, 3] [0, 1] rfl rfl (by decide) (by decide) (fun u5 H locs _ hP hD hS => ?_)
  have hP : va_P D vwCl [(xc0 cy xh xq), (xc40 cy xh xq), ((xq 40), .inr (9, [.ref (xq 41), .int 20])), ((xq 41), .inl (cy 0, 300, .inl u5))] H := hP
  have hD : va_D A [(xc0 cy xh xq), (xc40 cy xh xq), ((xq 40), .inr (9, [.ref (xq 41), .int 20])), ((xq 41), .inl (cy 0, 300, .inl u5))] := hD
  refine lv_aload hx hb dX11_feed_57 (lv_at hl 0 rfl) ?_
  refine va_get (D := D) (ci := 9) (v := .int 20) (C := RX9) (T := TX9) (N := 2) hx hb hts iw_X11_feed_X9 hown hKX.1 hP 2 rfl rfl 1 (by decide) (hts (.fieldLink RX11 160 "TrainFerry$Tape" "size" "I") (by decide +kernel)) (fun _ h9 => h9) rfl dX11_feed_59 ?_
  exact en_i hx hb hr hlocks () rfl trivial (hP.sub [] rfl) (hD.sub [] (by decide) rfl) hS (Nat.le_of_ble_eq_true rfl) (Nat.le_of_ble_eq_true rfl) dX11_feed_62
theorem iw_X11_end_X11 : ∀ w ∈ wsX110, w ∈ wsX11_end := by decide +kernel
theorem iw_X11_end_X1 : ∀ w ∈ wsX10, w ∈ wsX11_end := by decide +kernel
theorem iw_X11_end_X9 : ∀ w ∈ wsX90, w ∈ wsX11_end := by decide +kernel
set_option maxHeartbeats 4000000 in
set_option maxRecDepth 100000 in
theorem c_end (l : Launch) (D : va_G) (cy : Nat → ClassId) (xh : Nat) (xq : Nat → Nat) (xn : Int32) (sz : Nat) : Met l yX11_end wsX11_end ({ frames := 1, cells := 0, slots := 0, locals := 22 }) (wPre D cy [.ref xh, .int xn] sz [(xc0 cy xh xq), (xc40 cy xh xq), (xc41 cy xh xq)]) (wQi D (fEnd xn) (fun _ : Unit => True) (fun _u : Unit => []) (va_A [(xc0 cy xh xq), (xc40 cy xh xq), (xc41 cy xh xq)] sz)) 0 0 (va_A [(xc0 cy xh xq), (xc40 cy xh xq), (xc41 cy xh xq)] sz) := by
  refine met_go (y := yX11_end) (ws := wsX11_end) (av := [.ref xh, .int xn]) (cc := cX11_end) (maxL := 2) (ret := (some .int)) (Qc := fun A => wQi D (fEnd xn) (fun _ : Unit => True) (fun _u : Unit => []) A) (by decide) rfl (Nat.le_of_ble_eq_true rfl) ?_
  intro p e s m below meth c ls A hx hb hr hml hown hts hlocks hname hKX hP hD hA hS hl
  have hown : s.vm.findClass RX11 = some m.cls := hown
  have hl : lv_has ls 2 [(0, .ref xh), (1, .int xn)] := hl
  refine lv_iload_n hx hb dX11_end_0 rfl (lv_at hl 1 rfl) ?_
  refine lv_iconst (v := 0) hx hb dX11_end_1 (by decide) ?_
  refine lv_aload_n hx hb dX11_end_2 rfl (lv_at hl 0 rfl) ?_
  refine va_get (D := D) (ci := 11) (v := .ref (xq 39)) (C := RX11) (T := TX11) (N := 18) hx hb hts iw_X11_end_X11 hown hKX.1 hP 0 rfl rfl 3 (by decide) (hts (.fieldLink RX11 32 "TrainFerry" "reader" "LTrainFerry$AgreementReader;") (by decide +kernel)) (fun _ h9 => h9) rfl dX11_end_3 ?_
  refine va_get (D := D) (ci := 1) (v := .ref (xq 40)) (C := RX1) (T := TX1) (N := 6) hx hb hts iw_X11_end_X1 hown hKX.1 hP 1 rfl rfl 0 (by decide) (hts (.fieldLink RX11 156 "TrainFerry$AgreementReader" "tape" "LTrainFerry$Tape;") (by decide +kernel)) (fun _ h9 => h9) rfl dX11_end_6 ?_
  refine va_get (D := D) (ci := 9) (v := .int 0) (C := RX9) (T := TX9) (N := 2) hx hb hts iw_X11_end_X9 hown hKX.1 hP 2 rfl rfl 1 (by decide) (hts (.fieldLink RX11 160 "TrainFerry$Tape" "size" "I") (by decide +kernel)) (fun _ h9 => h9) rfl dX11_end_9 ?_
  refine cl_i (wr := [(xc0 cy xh xq), (xc40 cy xh xq), (xc41 cy xh xq)]) (va_runS (As := [.int xn, .int 0, .int 0]) (rest := []) ⟨hx, hb, hml, hown, hts⟩ (c_isWithin l D cy xn 0 0 _) (va_cwS 3 hts gX11_end_X11_isWithin rfl rfl rfl (by decide +kernel) ⟨(Nat.le_of_ble_eq_true rfl), (Nat.le_of_ble_eq_true rfl)⟩) (pre_S hKX hP hD [] rfl (by decide) rfl) rfl rfl hl.1 rfl (lv_room (Nat.le_of_ble_eq_true rfl)) dX11_end_12 ⟨(Nat.le_of_ble_eq_true rfl), (Nat.le_of_ble_eq_true rfl)⟩) hP hD hS hA [] [0, 1, 2] rfl rfl (by decide) (by decide) (fun u1 H locs _ hP hD hS => ?_)
  have hP : va_P D vwCl [(xc0 cy xh xq), (xc40 cy xh xq), (xc41 cy xh xq)] H := hP
  have hD : va_D A [(xc0 cy xh xq), (xc40 cy xh xq), (xc41 cy xh xq)] := hD
  refine lv_if_ne (tgt := 20) hx hb dX11_end_15 (by decide) (fun c2 => ?_) (fun c2 => ?_)
  · refine lv_aload_n hx hb dX11_end_20 rfl (lv_at hl 0 rfl) ?_
    refine va_get (D := D) (ci := 11) (v := .ref (xq 39)) (C := RX11) (T := TX11) (N := 18) hx hb hts iw_X11_end_X11 hown hKX.1 hP 0 rfl rfl 3 (by decide) (hts (.fieldLink RX11 32 "TrainFerry" "reader" "LTrainFerry$AgreementReader;") (by decide +kernel)) (fun _ h9 => h9) rfl dX11_end_21 ?_
    refine va_get (D := D) (ci := 1) (v := .ref (xq 40)) (C := RX1) (T := TX1) (N := 6) hx hb hts iw_X11_end_X1 hown hKX.1 hP 1 rfl rfl 0 (by decide) (hts (.fieldLink RX11 156 "TrainFerry$AgreementReader" "tape" "LTrainFerry$Tape;") (by decide +kernel)) (fun _ h9 => h9) rfl dX11_end_24 ?_
    refine lv_iload_n hx hb dX11_end_27 rfl (lv_at hl 1 rfl) ?_
    refine va_put (D := D) (ci := 9) (v := .int xn) (ty := .int) (C := RX9) (T := TX9) (N := 2) hx hb hts iw_X11_end_X9 tyX9 tyX9_ok nmX9 hown hKX.1 hP hD hS 2 rfl rfl 1 (by decide) (hts (.fieldLink RX11 160 "TrainFerry$Tape" "size" "I") (by decide +kernel)) (fun _ h9 => h9) rfl (by decide +kernel) rfl rfl (Nat.le_of_ble_eq_true rfl) dX11_end_28 (fun H locs hP hD hS => ?_)
    have hP : va_P D vwCl [(xc0 cy xh xq), (xc40 cy xh xq), ((xq 40), .inr (9, [.ref (xq 41), .int xn]))] H := hP
    have hD : va_D A [(xc0 cy xh xq), (xc40 cy xh xq), ((xq 40), .inr (9, [.ref (xq 41), .int xn]))] := hD
    refine lv_iload_n hx hb dX11_end_31 rfl (lv_at hl 1 rfl) ?_
    exact en_i hx hb hr hlocks () (by simp [fEnd, wic1, wic2, wic3, wic4, wic5, wic6, c2]) trivial (hP.sub [] rfl) (hD.sub [] (by decide) rfl) hS (Nat.le_of_ble_eq_true rfl) (Nat.le_of_ble_eq_true rfl) dX11_end_32
  · refine lv_iconst (v := (-1)) hx hb dX11_end_18 (by decide) ?_
    exact en_i hx hb hr hlocks () (by simp [fEnd, wic1, wic2, wic3, wic4, wic5, wic6, c2]) trivial (hP.sub [] rfl) (hD.sub [] (by decide) rfl) hS (Nat.le_of_ble_eq_true rfl) (Nat.le_of_ble_eq_true rfl) dX11_end_19
theorem iw_X0_init_X0 : ∀ w ∈ wsX00, w ∈ wsX0_init := by decide +kernel
set_option maxHeartbeats 4000000 in
set_option maxRecDepth 100000 in
theorem c_Agreement_init (l : Launch) (D : va_G) (cy : Nat → ClassId) (h : Nat) (sz : Nat) : Met l yX0_init wsX0_init ({ frames := 1, cells := 2, slots := 8, locals := 12 }) (wPre D cy [.ref h] sz [(h, .inr (0, [.null, .null, .int 0]))]) (wQv D (fun _ : (Nat → Nat) => True) (fun u : (Nat → Nat) => [(h, .inr (0, [.ref (u 0), .ref (u 1), .int 0])), ((u 0), .inl (cy 0, 4, .inl (fun _ => 0))), ((u 1), .inl (cy 0, 4, .inl (fun _ => 0)))]) (va_A [(h, .inr (0, [.null, .null, .int 0]))] sz)) 2 8 (va_A [(h, .inr (0, [.null, .null, .int 0]))] sz) := by
  refine met_go (y := yX0_init) (ws := wsX0_init) (av := [.ref h]) (cc := cX0_init) (maxL := 1) (ret := none) (Qc := fun A => wQv D (fun _ : (Nat → Nat) => True) (fun u : (Nat → Nat) => [(h, .inr (0, [.ref (u 0), .ref (u 1), .int 0])), ((u 0), .inl (cy 0, 4, .inl (fun _ => 0))), ((u 1), .inl (cy 0, 4, .inl (fun _ => 0)))]) A) (by decide) rfl (Nat.le_of_ble_eq_true rfl) ?_
  intro p e s m below meth c ls A hx hb hr hml hown hts hlocks hname hKX hP hD hA hS hl
  have hown : s.vm.findClass RX0 = some m.cls := hown
  have hl : lv_has ls 1 [(0, .ref h)] := hl
  refine lv_aload_n hx hb dX0_init_0 rfl (lv_at hl 0 rfl) ?_
  refine W.objInit hx hb hown (hts (.methodLink RX0 3 objectInit) (by decide +kernel)) (hts (.instanceMethod objectInit) (by decide +kernel)) (hts (.code objectInit ⟨#[0xb1]⟩ 1 none) (by decide +kernel)) rfl (by rw [hml]; exact hl.1) rfl dX0_init_1 (Nat.le_of_ble_eq_true rfl) (Nat.le_of_ble_eq_true rfl) ?_
  refine W.eq (g2 := F0 m 4 ls []) rfl ?_
  refine lv_aload_n hx hb dX0_init_4 rfl (lv_at hl 0 rfl) ?_
  refine lv_iconst (v := 4) hx hb dX0_init_5 (by decide) ?_
  refine nw_a (atype := .int) (a0 := (4, .inl (fun _ => 0))) hx hb (hts (.arrayClass .int) (by decide +kernel)) (ty := .int) rfl hKX hP hD hS hA 0 rfl (fun cA => (vp_cell_i cA 4 _).trans (congrArg (arrV cA 4) (funext fun _ => rfl))) (by decide) (by decide) (by decide +kernel) (Nat.le_of_ble_eq_true rfl) (Nat.le_of_ble_eq_true rfl) dX0_init_6 (fun q1 H hP hD hS => ?_)
  have hP : va_P D vwCl [(h, .inr (0, [.null, .null, .int 0])), (q1, .inl (cy 0, 4, .inl (fun _ => 0)))] H := hP
  have hD : va_D A [(h, .inr (0, [.null, .null, .int 0])), (q1, .inl (cy 0, 4, .inl (fun _ => 0)))] := hD
  refine va_putF (D := D) (ci := 0) (v := .ref q1) (ty := (tyX0 0)) (C := RX0) (T := TX0) (N := 3) hx hb hts iw_X0_init_X0 tyX0 tyX0_ok nmX0 hown hKX.1 hP hD hS 0 rfl rfl 0 (by decide) (hts (.fieldLink RX0 9 "TrainFerry$Agreement" "rates" "[I") (by decide +kernel)) (fun _ h9 => h9) rfl hname rfl (by decide +kernel) rfl rfl (Nat.le_of_ble_eq_true rfl) dX0_init_8 (fun H locs hP hD hS => ?_)
  have hP : va_P D vwCl [(h, .inr (0, [.ref q1, .null, .int 0])), (q1, .inl (cy 0, 4, .inl (fun _ => 0)))] H := hP
  have hD : va_D A [(h, .inr (0, [.ref q1, .null, .int 0])), (q1, .inl (cy 0, 4, .inl (fun _ => 0)))] := hD
  refine lv_aload_n hx hb dX0_init_11 rfl (lv_at hl 0 rfl) ?_
  refine lv_iconst (v := 4) hx hb dX0_init_12 (by decide) ?_
  refine nw_a (atype := .int) (a0 := (4, .inl (fun _ => 0))) hx hb (hts (.arrayClass .int) (by decide +kernel)) (ty := .int) rfl hKX hP hD hS hA 0 rfl (fun cA => (vp_cell_i cA 4 _).trans (congrArg (arrV cA 4) (funext fun _ => rfl))) (by decide) (by decide) (by decide +kernel) (Nat.le_of_ble_eq_true rfl) (Nat.le_of_ble_eq_true rfl) dX0_init_13 (fun q2 H hP hD hS => ?_)
  have hP : va_P D vwCl [(h, .inr (0, [.ref q1, .null, .int 0])), (q1, .inl (cy 0, 4, .inl (fun _ => 0))), (q2, .inl (cy 0, 4, .inl (fun _ => 0)))] H := hP
  have hD : va_D A [(h, .inr (0, [.ref q1, .null, .int 0])), (q1, .inl (cy 0, 4, .inl (fun _ => 0))), (q2, .inl (cy 0, 4, .inl (fun _ => 0)))] := hD
  refine va_putF (D := D) (ci := 0) (v := .ref q2) (ty := (tyX0 1)) (C := RX0) (T := TX0) (N := 3) hx hb hts iw_X0_init_X0 tyX0 tyX0_ok nmX0 hown hKX.1 hP hD hS 0 rfl rfl 1 (by decide) (hts (.fieldLink RX0 15 "TrainFerry$Agreement" "parties" "[I") (by decide +kernel)) (fun _ h9 => h9) rfl hname rfl (by decide +kernel) rfl rfl (Nat.le_of_ble_eq_true rfl) dX0_init_15 (fun H locs hP hD hS => ?_)
  have hP : va_P D vwCl [(h, .inr (0, [.ref q1, .ref q2, .int 0])), (q1, .inl (cy 0, 4, .inl (fun _ => 0))), (q2, .inl (cy 0, 4, .inl (fun _ => 0)))] H := hP
  have hD : va_D A [(h, .inr (0, [.ref q1, .ref q2, .int 0])), (q1, .inl (cy 0, 4, .inl (fun _ => 0))), (q2, .inl (cy 0, 4, .inl (fun _ => 0)))] := hD
  refine lv_aload_n hx hb dX0_init_18 rfl (lv_at hl 0 rfl) ?_
  refine lv_iconst (v := 0) hx hb dX0_init_19 (by decide) ?_
  refine va_put (D := D) (ci := 0) (v := .int 0) (ty := .int) (C := RX0) (T := TX0) (N := 3) hx hb hts iw_X0_init_X0 tyX0 tyX0_ok nmX0 hown hKX.1 hP hD hS 0 rfl rfl 2 (by decide) (hts (.fieldLink RX0 18 "TrainFerry$Agreement" "free" "I") (by decide +kernel)) (fun _ h9 => h9) rfl (by decide +kernel) rfl rfl (Nat.le_of_ble_eq_true rfl) dX0_init_20 (fun H locs hP hD hS => ?_)
  have hP : va_P D vwCl [(h, .inr (0, [.ref q1, .ref q2, .int 0])), (q1, .inl (cy 0, 4, .inl (fun _ => 0))), (q2, .inl (cy 0, 4, .inl (fun _ => 0)))] H := hP
  have hD : va_D A [(h, .inr (0, [.ref q1, .ref q2, .int 0])), (q1, .inl (cy 0, 4, .inl (fun _ => 0))), (q2, .inl (cy 0, 4, .inl (fun _ => 0)))] := hD
  exact en_v hx hb hr hlocks (lk [q1, q2]) trivial (hP.sub [0, 1, 2] rfl) (hD.sub [0, 1, 2] (by decide) rfl) hS (Nat.le_of_ble_eq_true rfl) (Nat.le_of_ble_eq_true rfl) dX0_init_23
theorem iw_X1_byteAt_X1 : ∀ w ∈ wsX10, w ∈ wsX1_byteAt := by decide +kernel
theorem iw_X1_byteAt_X9 : ∀ w ∈ wsX90, w ∈ wsX1_byteAt := by decide +kernel
set_option maxHeartbeats 4000000 in
set_option maxRecDepth 100000 in
theorem c_byteAt (l : Launch) (D : va_G) (cy : Nat → ClassId) (h : Nat) (t : Nat) (b : Nat) (sz : Nat) : Met l yX1_byteAt wsX1_byteAt ({ frames := 0, cells := 0, slots := 0, locals := 0 }) (wPre D cy [.ref h, .int 0] sz [(h, .inr (1, [.ref t, .int 0, .int (-1), .int 0, .int 0, .int 0])), (t, .inr (9, [.ref b, .int 0]))]) (wQi D (-1) (fun _ : Unit => True) (fun _u : Unit => [(h, .inr (1, [.ref t, .int 0, .int (-1), .int 0, .int 0, .int 0])), (t, .inr (9, [.ref b, .int 0]))]) (va_A [(h, .inr (1, [.ref t, .int 0, .int (-1), .int 0, .int 0, .int 0])), (t, .inr (9, [.ref b, .int 0]))] sz)) 0 0 (va_A [(h, .inr (1, [.ref t, .int 0, .int (-1), .int 0, .int 0, .int 0])), (t, .inr (9, [.ref b, .int 0]))] sz) := by
  refine met_go (y := yX1_byteAt) (ws := wsX1_byteAt) (av := [.ref h, .int 0]) (cc := cX1_byteAt) (maxL := 2) (ret := (some .int)) (Qc := fun A => wQi D (-1) (fun _ : Unit => True) (fun _u : Unit => [(h, .inr (1, [.ref t, .int 0, .int (-1), .int 0, .int 0, .int 0])), (t, .inr (9, [.ref b, .int 0]))]) A) (by decide) rfl (Nat.le_of_ble_eq_true rfl) ?_
  intro p e s m below meth c ls A hx hb hr hml hown hts hlocks hname hKX hP hD hA hS hl
  have hown : s.vm.findClass RX1 = some m.cls := hown
  have hl : lv_has ls 2 [(0, .ref h), (1, .int 0)] := hl
  refine lv_iload_n hx hb dX1_byteAt_0 rfl (lv_at hl 1 rfl) ?_
  refine lv_if_lt (tgt := 34) hx hb dX1_byteAt_1 (by decide) (fun c9 => absurd c9 (by decide)) (fun _ => ?_)
  refine lv_iload_n hx hb dX1_byteAt_4 rfl (lv_at hl 1 rfl) ?_
  refine lv_aload_n hx hb dX1_byteAt_5 rfl (lv_at hl 0 rfl) ?_
  refine va_get (D := D) (ci := 1) (v := .ref t) (C := RX1) (T := TX1) (N := 6) hx hb hts iw_X1_byteAt_X1 hown hKX.1 hP 0 rfl rfl 0 (by decide) (hts (.fieldLink RX1 12 "TrainFerry$AgreementReader" "tape" "LTrainFerry$Tape;") (by decide +kernel)) (fun _ h9 => h9) rfl dX1_byteAt_6 ?_
  refine va_get (D := D) (ci := 9) (v := .int 0) (C := RX9) (T := TX9) (N := 2) hx hb hts iw_X1_byteAt_X9 hown hKX.1 hP 1 rfl rfl 1 (by decide) (hts (.fieldLink RX1 100 "TrainFerry$Tape" "size" "I") (by decide +kernel)) (fun _ h9 => h9) rfl dX1_byteAt_9 ?_
  refine lv_icmp_ge (tgt := 34) hx hb dX1_byteAt_12 (by decide) (fun _ => ?_) (fun c9 => absurd (by decide) c9)
  refine lv_iconst (v := (-1)) hx hb dX1_byteAt_34 (by decide) ?_
  exact en_i hx hb hr hlocks () rfl trivial (hP.sub [0, 1] rfl) (hD.sub [0, 1] (by decide) rfl) hS (Nat.le_of_ble_eq_true rfl) (Nat.le_of_ble_eq_true rfl) dX1_byteAt_35
theorem iw_X1_goOn_X1 : ∀ w ∈ wsX10, w ∈ wsX1_goOn := by decide +kernel
theorem iw_X1_goOn_X9 : ∀ w ∈ wsX90, w ∈ wsX1_goOn := by decide +kernel
set_option maxHeartbeats 4000000 in
set_option maxRecDepth 100000 in
theorem c_goOn (l : Launch) (D : va_G) (cy : Nat → ClassId) (h : Nat) (t : Nat) (b : Nat) (sz : Nat) : Met l yX1_goOn wsX1_goOn ({ frames := 1, cells := 0, slots := 0, locals := 21 }) (wPre D cy [.ref h] sz [(h, .inr (1, [.ref t, .int 0, .int (-1), .int 0, .int 0, .int 0])), (t, .inr (9, [.ref b, .int 0]))]) (wQv D (fun _ : Unit => True) (fun _u : Unit => [(h, .inr (1, [.ref t, .int 0, .int (-1), .int 0, .int 0, .int 0])), (t, .inr (9, [.ref b, .int 0]))]) (va_A [(h, .inr (1, [.ref t, .int 0, .int (-1), .int 0, .int 0, .int 0])), (t, .inr (9, [.ref b, .int 0]))] sz)) 0 0 (va_A [(h, .inr (1, [.ref t, .int 0, .int (-1), .int 0, .int 0, .int 0])), (t, .inr (9, [.ref b, .int 0]))] sz) := by
  refine met_go (y := yX1_goOn) (ws := wsX1_goOn) (av := [.ref h]) (cc := cX1_goOn) (maxL := 2) (ret := none) (Qc := fun A => wQv D (fun _ : Unit => True) (fun _u : Unit => [(h, .inr (1, [.ref t, .int 0, .int (-1), .int 0, .int 0, .int 0])), (t, .inr (9, [.ref b, .int 0]))]) A) (by decide) rfl (Nat.le_of_ble_eq_true rfl) ?_
  intro p e s m below meth c ls A hx hb hr hml hown hts hlocks hname hKX hP hD hA hS hl
  have hown : s.vm.findClass RX1 = some m.cls := hown
  have hl : lv_has ls 2 [(0, .ref h)] := hl
  refine lv_aload_n hx hb dX1_goOn_0 rfl (lv_at hl 0 rfl) ?_
  refine lv_aload_n hx hb dX1_goOn_1 rfl (lv_at hl 0 rfl) ?_
  refine va_get (D := D) (ci := 1) (v := .int 0) (C := RX1) (T := TX1) (N := 6) hx hb hts iw_X1_goOn_X1 hown hKX.1 hP 0 rfl rfl 5 (by decide) (hts (.fieldLink RX1 31 "TrainFerry$AgreementReader" "tokenStop" "I") (by decide +kernel)) (fun _ h9 => h9) rfl dX1_goOn_2 ?_
  refine va_put (D := D) (ci := 1) (v := .int 0) (ty := .int) (C := RX1) (T := TX1) (N := 6) hx hb hts iw_X1_goOn_X1 tyX1 tyX1_ok nmX1 hown hKX.1 hP hD hS 0 rfl rfl 4 (by decide) (hts (.fieldLink RX1 28 "TrainFerry$AgreementReader" "tokenStart" "I") (by decide +kernel)) (fun _ h9 => h9) rfl (by decide +kernel) rfl rfl (Nat.le_of_ble_eq_true rfl) dX1_goOn_5 (fun H locs hP hD hS => ?_)
  have hP : va_P D vwCl [(h, .inr (1, [.ref t, .int 0, .int (-1), .int 0, .int 0, .int 0])), (t, .inr (9, [.ref b, .int 0]))] H := hP
  have hD : va_D A [(h, .inr (1, [.ref t, .int 0, .int (-1), .int 0, .int 0, .int 0])), (t, .inr (9, [.ref b, .int 0]))] := hD
  refine lv_aload_n hx hb dX1_goOn_8 rfl (lv_at hl 0 rfl) ?_
  refine va_get (D := D) (ci := 1) (v := .int 0) (C := RX1) (T := TX1) (N := 6) hx hb hts iw_X1_goOn_X1 hown hKX.1 hP 0 rfl rfl 4 (by decide) (hts (.fieldLink RX1 28 "TrainFerry$AgreementReader" "tokenStart" "I") (by decide +kernel)) (fun _ h9 => h9) rfl dX1_goOn_9 ?_
  refine lv_aload_n hx hb dX1_goOn_12 rfl (lv_at hl 0 rfl) ?_
  refine va_get (D := D) (ci := 1) (v := .ref t) (C := RX1) (T := TX1) (N := 6) hx hb hts iw_X1_goOn_X1 hown hKX.1 hP 0 rfl rfl 0 (by decide) (hts (.fieldLink RX1 12 "TrainFerry$AgreementReader" "tape" "LTrainFerry$Tape;") (by decide +kernel)) (fun _ h9 => h9) rfl dX1_goOn_13 ?_
  refine va_get (D := D) (ci := 9) (v := .int 0) (C := RX9) (T := TX9) (N := 2) hx hb hts iw_X1_goOn_X9 hown hKX.1 hP 1 rfl rfl 1 (by decide) (hts (.fieldLink RX1 100 "TrainFerry$Tape" "size" "I") (by decide +kernel)) (fun _ h9 => h9) rfl dX1_goOn_16 ?_
  refine lv_icmp_ge (tgt := 49) hx hb dX1_goOn_19 (by decide) (fun _ => ?_) (fun c9 => absurd (by decide) c9)
  refine lv_aload_n hx hb dX1_goOn_49 rfl (lv_at hl 0 rfl) ?_
  refine lv_aload_n hx hb dX1_goOn_50 rfl (lv_at hl 0 rfl) ?_
  refine va_get (D := D) (ci := 1) (v := .int 0) (C := RX1) (T := TX1) (N := 6) hx hb hts iw_X1_goOn_X1 hown hKX.1 hP 0 rfl rfl 4 (by decide) (hts (.fieldLink RX1 28 "TrainFerry$AgreementReader" "tokenStart" "I") (by decide +kernel)) (fun _ h9 => h9) rfl dX1_goOn_51 ?_
  refine va_put (D := D) (ci := 1) (v := .int 0) (ty := .int) (C := RX1) (T := TX1) (N := 6) hx hb hts iw_X1_goOn_X1 tyX1 tyX1_ok nmX1 hown hKX.1 hP hD hS 0 rfl rfl 5 (by decide) (hts (.fieldLink RX1 31 "TrainFerry$AgreementReader" "tokenStop" "I") (by decide +kernel)) (fun _ h9 => h9) rfl (by decide +kernel) rfl rfl (Nat.le_of_ble_eq_true rfl) dX1_goOn_54 (fun H locs hP hD hS => ?_)
  have hP : va_P D vwCl [(h, .inr (1, [.ref t, .int 0, .int (-1), .int 0, .int 0, .int 0])), (t, .inr (9, [.ref b, .int 0]))] H := hP
  have hD : va_D A [(h, .inr (1, [.ref t, .int 0, .int (-1), .int 0, .int 0, .int 0])), (t, .inr (9, [.ref b, .int 0]))] := hD
  refine lv_aload_n hx hb dX1_goOn_57 rfl (lv_at hl 0 rfl) ?_
  refine lv_aload_n hx hb dX1_goOn_58 rfl (lv_at hl 0 rfl) ?_
  refine va_get (D := D) (ci := 1) (v := .int 0) (C := RX1) (T := TX1) (N := 6) hx hb hts iw_X1_goOn_X1 hown hKX.1 hP 0 rfl rfl 4 (by decide) (hts (.fieldLink RX1 28 "TrainFerry$AgreementReader" "tokenStart" "I") (by decide +kernel)) (fun _ h9 => h9) rfl dX1_goOn_59 ?_
  refine cl_i (wr := []) (va_runV (As := [.int 0]) (rest := []) ⟨hx, hb, hml, hown, hts⟩ (c_byteAt l D cy h t b _) (cwV 1 hts gX1_goOn_X1_byteAt rfl rfl rfl (by decide +kernel) ⟨(Nat.le_of_ble_eq_true rfl), (Nat.le_of_ble_eq_true rfl)⟩) (pre_V hKX hP hD (ci := 1) (q0 := 0) rfl rfl [0, 1] rfl (by decide) rfl) rfl rfl hl.1 rfl (lv_room (Nat.le_of_ble_eq_true rfl)) dX1_goOn_62 ⟨(Nat.le_of_ble_eq_true rfl), (Nat.le_of_ble_eq_true rfl)⟩) hP hD hS hA [0, 1] [] rfl rfl (by decide) (by decide) (fun u1 H locs _ hP hD hS => ?_)
  have hP : va_P D vwCl [(h, .inr (1, [.ref t, .int 0, .int (-1), .int 0, .int 0, .int 0])), (t, .inr (9, [.ref b, .int 0]))] H := hP
  have hD : va_D A [(h, .inr (1, [.ref t, .int 0, .int (-1), .int 0, .int 0, .int 0])), (t, .inr (9, [.ref b, .int 0]))] := hD
  refine lv_istore_n (lv' := [(1, .int (-1)), (0, .ref h)]) hx hb dX1_goOn_65 rfl hl (by decide) rfl (fun ls hl => ?_)
  refine lv_iload_n hx hb dX1_goOn_66 rfl (lv_at hl 0 rfl) ?_
  refine lv_iconst (v := (-1)) hx hb dX1_goOn_67 (by decide) ?_
  refine lv_icmp_ne (tgt := 79) hx hb dX1_goOn_68 (by decide) (fun c9 => absurd (by decide) c9) (fun _ => ?_)
  refine lv_aload_n hx hb dX1_goOn_71 rfl (lv_at hl 1 rfl) ?_
  refine lv_iconst (v := 0) hx hb dX1_goOn_72 (by decide) ?_
  refine va_put (D := D) (ci := 1) (v := .int 0) (ty := .int) (C := RX1) (T := TX1) (N := 6) hx hb hts iw_X1_goOn_X1 tyX1 tyX1_ok nmX1 hown hKX.1 hP hD hS 0 rfl rfl 3 (by decide) (hts (.fieldLink RX1 25 "TrainFerry$AgreementReader" "token" "I") (by decide +kernel)) (fun _ h9 => h9) rfl (by decide +kernel) rfl rfl (Nat.le_of_ble_eq_true rfl) dX1_goOn_73 (fun H locs hP hD hS => ?_)
  have hP : va_P D vwCl [(h, .inr (1, [.ref t, .int 0, .int (-1), .int 0, .int 0, .int 0])), (t, .inr (9, [.ref b, .int 0]))] H := hP
  have hD : va_D A [(h, .inr (1, [.ref t, .int 0, .int (-1), .int 0, .int 0, .int 0])), (t, .inr (9, [.ref b, .int 0]))] := hD
  refine lv_goto (tgt := 159) hx hb dX1_goOn_76 (by decide) ?_
  exact en_v hx hb hr hlocks () trivial (hP.sub [0, 1] rfl) (hD.sub [0, 1] (by decide) rfl) hS (Nat.le_of_ble_eq_true rfl) (Nat.le_of_ble_eq_true rfl) dX1_goOn_159
theorem iw_X1_read_X1 : ∀ w ∈ wsX10, w ∈ wsX1_read := by decide +kernel
theorem iw_X1_read_X0 : ∀ w ∈ wsX00, w ∈ wsX1_read := by decide +kernel
set_option maxHeartbeats 4000000 in
set_option maxRecDepth 100000 in
theorem c_read (l : Launch) (D : va_G) (cy : Nat → ClassId) (h : Nat) (t : Nat) (b : Nat) (sz : Nat) : Met l yX1_read wsX1_read ({ frames := 2, cells := 3, slots := 11, locals := 42 }) (wPre D cy [.ref h] sz [(h, .inr (1, [.ref t, .int 0, .int (-1), .int 0, .int 0, .int 0])), (t, .inr (9, [.ref b, .int 0]))]) (wQq D (fun u : (Nat → Nat) => some (u 0)) (fun _ : (Nat → Nat) => True) (fun u : (Nat → Nat) => [((u 0), .inr (0, [.ref (u 1), .ref (u 2), .int 0])), ((u 1), .inl (cy 0, 4, .inl (fun _ => 0))), ((u 2), .inl (cy 0, 4, .inl (fun _ => 0))), (h, .inr (1, [.ref t, .int 0, .int (-1), .int 0, .int 0, .int 0])), (t, .inr (9, [.ref b, .int 0]))]) (va_A [(h, .inr (1, [.ref t, .int 0, .int (-1), .int 0, .int 0, .int 0])), (t, .inr (9, [.ref b, .int 0]))] sz)) 3 11 (va_A [(h, .inr (1, [.ref t, .int 0, .int (-1), .int 0, .int 0, .int 0])), (t, .inr (9, [.ref b, .int 0]))] sz) := by
  refine met_go (y := yX1_read) (ws := wsX1_read) (av := [.ref h]) (cc := cX1_read) (maxL := 3) (ret := (some (.object "TrainFerry$Agreement"))) (Qc := fun A => wQq D (fun u : (Nat → Nat) => some (u 0)) (fun _ : (Nat → Nat) => True) (fun u : (Nat → Nat) => [((u 0), .inr (0, [.ref (u 1), .ref (u 2), .int 0])), ((u 1), .inl (cy 0, 4, .inl (fun _ => 0))), ((u 2), .inl (cy 0, 4, .inl (fun _ => 0))), (h, .inr (1, [.ref t, .int 0, .int (-1), .int 0, .int 0, .int 0])), (t, .inr (9, [.ref b, .int 0]))]) A) (by decide) rfl (Nat.le_of_ble_eq_true rfl) ?_
  intro p e s m below meth c ls A hx hb hr hml hown hts hlocks hname hKX hP hD hA hS hl
  have hown : s.vm.findClass RX1 = some m.cls := hown
  have hl : lv_has ls 3 [(0, .ref h)] := hl
  refine lv_aload_n hx hb dX1_read_0 rfl (lv_at hl 0 rfl) ?_
  refine lv_iconst (v := 0) hx hb dX1_read_1 (by decide) ?_
  refine va_put (D := D) (ci := 1) (v := .int 0) (ty := .int) (C := RX1) (T := TX1) (N := 6) hx hb hts iw_X1_read_X1 tyX1 tyX1_ok nmX1 hown hKX.1 hP hD hS 0 rfl rfl 5 (by decide) (hts (.fieldLink RX1 31 "TrainFerry$AgreementReader" "tokenStop" "I") (by decide +kernel)) (fun _ h9 => h9) rfl (by decide +kernel) rfl rfl (Nat.le_of_ble_eq_true rfl) dX1_read_2 (fun H locs hP hD hS => ?_)
  have hP : va_P D vwCl [(h, .inr (1, [.ref t, .int 0, .int (-1), .int 0, .int 0, .int 0])), (t, .inr (9, [.ref b, .int 0]))] H := hP
  have hD : va_D A [(h, .inr (1, [.ref t, .int 0, .int (-1), .int 0, .int 0, .int 0])), (t, .inr (9, [.ref b, .int 0]))] := hD
  refine lv_aload_n hx hb dX1_read_5 rfl (lv_at hl 0 rfl) ?_
  refine lv_iconst (v := 0) hx hb dX1_read_6 (by decide) ?_
  refine va_put (D := D) (ci := 1) (v := .int 0) (ty := .int) (C := RX1) (T := TX1) (N := 6) hx hb hts iw_X1_read_X1 tyX1 tyX1_ok nmX1 hown hKX.1 hP hD hS 0 rfl rfl 1 (by decide) (hts (.fieldLink RX1 18 "TrainFerry$AgreementReader" "faultKind" "I") (by decide +kernel)) (fun _ h9 => h9) rfl (by decide +kernel) rfl rfl (Nat.le_of_ble_eq_true rfl) dX1_read_7 (fun H locs hP hD hS => ?_)
  have hP : va_P D vwCl [(h, .inr (1, [.ref t, .int 0, .int (-1), .int 0, .int 0, .int 0])), (t, .inr (9, [.ref b, .int 0]))] H := hP
  have hD : va_D A [(h, .inr (1, [.ref t, .int 0, .int (-1), .int 0, .int 0, .int 0])), (t, .inr (9, [.ref b, .int 0]))] := hD
  refine lv_aload_n hx hb dX1_read_10 rfl (lv_at hl 0 rfl) ?_
  refine lv_iconst (v := (-1)) hx hb dX1_read_11 (by decide) ?_
  refine va_put (D := D) (ci := 1) (v := .int (-1)) (ty := .int) (C := RX1) (T := TX1) (N := 6) hx hb hts iw_X1_read_X1 tyX1 tyX1_ok nmX1 hown hKX.1 hP hD hS 0 rfl rfl 2 (by decide) (hts (.fieldLink RX1 22 "TrainFerry$AgreementReader" "faultPlace" "I") (by decide +kernel)) (fun _ h9 => h9) rfl (by decide +kernel) rfl rfl (Nat.le_of_ble_eq_true rfl) dX1_read_12 (fun H locs hP hD hS => ?_)
  have hP : va_P D vwCl [(h, .inr (1, [.ref t, .int 0, .int (-1), .int 0, .int 0, .int 0])), (t, .inr (9, [.ref b, .int 0]))] H := hP
  have hD : va_D A [(h, .inr (1, [.ref t, .int 0, .int (-1), .int 0, .int 0, .int 0])), (t, .inr (9, [.ref b, .int 0]))] := hD
  refine va_new (ci := 0) (fs := [.null, .null, .int 0]) (C := RX0) (T := TX0) (N := 3) hx hb hts iw_X1_read_X0 tyX0 tyX0_ok hown (hts (.classLink RX1 34 RX0) (by decide +kernel)) (hts (.instantiable RX0 3) (by decide +kernel)) (hts (.initialized RX0) (by decide +kernel)) hKX.1 hP hD hS hA rfl (fun j hj => by rcases (show j = 0 ∨ j = 1 ∨ j = 2 by omega) with rfl | rfl | rfl <;> rfl) (Nat.le_of_ble_eq_true rfl) (Nat.le_of_ble_eq_true rfl) dX1_read_15 (fun q1 H hP hD hS => ?_)
  have hP : va_P D vwCl [(h, .inr (1, [.ref t, .int 0, .int (-1), .int 0, .int 0, .int 0])), (t, .inr (9, [.ref b, .int 0])), (q1, .inr (0, [.null, .null, .int 0]))] H := hP
  have hD : va_D A [(h, .inr (1, [.ref t, .int 0, .int (-1), .int 0, .int 0, .int 0])), (t, .inr (9, [.ref b, .int 0])), (q1, .inr (0, [.null, .null, .int 0]))] := hD
  refine lv_dup hx hb dX1_read_18 rfl ?_
  refine cl_v (wr := [(h, .inr (1, [.ref t, .int 0, .int (-1), .int 0, .int 0, .int 0])), (t, .inr (9, [.ref b, .int 0]))]) (va_runIN (As := []) (rest := [.ref q1]) ⟨hx, hb, hml, hown, hts⟩ (c_Agreement_init l D cy q1 _) ⟨va_cnB 0 hts gX1_read_X0_init_n36 rfl rfl rfl (hKX.2.1 (.methodLinkNest RX1 36 yX0_init RX11) (by decide +kernel)) (hts (.initialized RX0) (by decide +kernel)) (by decide +kernel) ⟨(Nat.le_of_ble_eq_true rfl), (Nat.le_of_ble_eq_true rfl)⟩, rfl, hts (.instanceMethod yX0_init) (by decide +kernel)⟩ (pre_S hKX hP hD [2] rfl (by decide) rfl) rfl rfl hl.1 rfl (lv_room (Nat.le_of_ble_eq_true rfl)) dX1_read_19 ⟨(Nat.le_of_ble_eq_true rfl), (Nat.le_of_ble_eq_true rfl)⟩) hP hD hS hA [2] [0, 1] rfl rfl (by decide) (by decide) (fun u2 H locs _ hP hD hS => ?_)
  have hP : va_P D vwCl [(h, .inr (1, [.ref t, .int 0, .int (-1), .int 0, .int 0, .int 0])), (t, .inr (9, [.ref b, .int 0])), (q1, .inr (0, [.ref (u2 0), .ref (u2 1), .int 0])), ((u2 0), .inl (cy 0, 4, .inl (fun _ => 0))), ((u2 1), .inl (cy 0, 4, .inl (fun _ => 0)))] H := hP
  have hD : va_D A [(h, .inr (1, [.ref t, .int 0, .int (-1), .int 0, .int 0, .int 0])), (t, .inr (9, [.ref b, .int 0])), (q1, .inr (0, [.ref (u2 0), .ref (u2 1), .int 0])), ((u2 0), .inl (cy 0, 4, .inl (fun _ => 0))), ((u2 1), .inl (cy 0, 4, .inl (fun _ => 0)))] := hD
  refine lv_astore_n (lv' := [(1, .ref q1), (0, .ref h)]) hx hb dX1_read_22 rfl hl (by decide) rfl (fun ls hl => ?_)
  refine lv_aload_n hx hb dX1_read_23 rfl (lv_at hl 1 rfl) ?_
  refine cl_v (wr := [(q1, .inr (0, [.ref (u2 0), .ref (u2 1), .int 0])), ((u2 0), .inl (cy 0, 4, .inl (fun _ => 0))), ((u2 1), .inl (cy 0, 4, .inl (fun _ => 0)))]) (va_runV (As := []) (rest := []) ⟨hx, hb, hml, hown, hts⟩ (c_goOn l D cy h t b _) (cwV 0 hts gX1_read_X1_goOn rfl rfl rfl (by decide +kernel) ⟨(Nat.le_of_ble_eq_true rfl), (Nat.le_of_ble_eq_true rfl)⟩) (pre_V hKX hP hD (ci := 1) (q0 := 0) rfl rfl [0, 1] rfl (by decide) rfl) rfl rfl hl.1 rfl (lv_room (Nat.le_of_ble_eq_true rfl)) dX1_read_24 ⟨(Nat.le_of_ble_eq_true rfl), (Nat.le_of_ble_eq_true rfl)⟩) hP hD hS hA [0, 1] [2, 3, 4] rfl rfl (by decide) (by decide) (fun u3 H locs _ hP hD hS => ?_)
  have hP : va_P D vwCl [(q1, .inr (0, [.ref (u2 0), .ref (u2 1), .int 0])), ((u2 0), .inl (cy 0, 4, .inl (fun _ => 0))), ((u2 1), .inl (cy 0, 4, .inl (fun _ => 0))), (h, .inr (1, [.ref t, .int 0, .int (-1), .int 0, .int 0, .int 0])), (t, .inr (9, [.ref b, .int 0]))] H := hP
  have hD : va_D A [(q1, .inr (0, [.ref (u2 0), .ref (u2 1), .int 0])), ((u2 0), .inl (cy 0, 4, .inl (fun _ => 0))), ((u2 1), .inl (cy 0, 4, .inl (fun _ => 0))), (h, .inr (1, [.ref t, .int 0, .int (-1), .int 0, .int 0, .int 0])), (t, .inr (9, [.ref b, .int 0]))] := hD
  refine lv_iconst (v := 0) hx hb dX1_read_27 (by decide) ?_
  refine lv_istore_n (lv' := [(2, .int 0), (1, .ref q1), (0, .ref h)]) hx hb dX1_read_28 rfl hl (by decide) rfl (fun ls hl => ?_)
  refine lv_iload_n hx hb dX1_read_29 rfl (lv_at hl 0 rfl) ?_
  refine lv_bipush (v := 20) hx hb dX1_read_30 (by decide) ?_
  refine lv_icmp_gt (tgt := 59) hx hb dX1_read_32 (by decide) (fun c9 => absurd c9 (by decide)) (fun _ => ?_)
  refine lv_aload_n hx hb dX1_read_35 rfl (lv_at hl 2 rfl) ?_
  refine va_get (D := D) (ci := 1) (v := .int 0) (C := RX1) (T := TX1) (N := 6) hx hb hts iw_X1_read_X1 hown hKX.1 hP 3 rfl rfl 3 (by decide) (hts (.fieldLink RX1 25 "TrainFerry$AgreementReader" "token" "I") (by decide +kernel)) (fun _ h9 => h9) rfl dX1_read_36 ?_
  refine lv_if_eq (tgt := 59) hx hb dX1_read_39 (by decide) (fun _ => ?_) (fun c9 => absurd (by decide) c9)
  refine lv_aload_n hx hb dX1_read_59 rfl (lv_at hl 1 rfl) ?_
  exact en_q (v' := (some q1)) hx hb hr (Or.inl ⟨_, rfl⟩) hlocks rfl (lk [q1, (u2 0), (u2 1)]) rfl trivial (hP.sub [0, 1, 2, 3, 4] rfl) (hD.sub [0, 1, 2, 3, 4] (by decide) rfl) hS (Nat.le_of_ble_eq_true rfl) (Nat.le_of_ble_eq_true rfl) dX1_read_60
theorem iw_X11_agree_X11 : ∀ w ∈ wsX110, w ∈ wsX11_agree := by decide +kernel
theorem iw_X11_agree_X6 : ∀ w ∈ wsX60, w ∈ wsX11_agree := by decide +kernel
theorem iw_X11_agree_X1 : ∀ w ∈ wsX10, w ∈ wsX11_agree := by decide +kernel
theorem iw_X11_agree_X9 : ∀ w ∈ wsX90, w ∈ wsX11_agree := by decide +kernel
set_option maxHeartbeats 4000000 in
set_option maxRecDepth 100000 in
theorem c_agree (l : Launch) (D : va_G) (cy : Nat → ClassId) (xh : Nat) (xq : Nat → Nat) (xt : Int32) (sz : Nat) : Met l yX11_agree wsX11_agree ({ frames := 3, cells := 3, slots := 11, locals := 64 }) (wPre D cy [.ref xh, .int xt] sz [(xc0 cy xh xq), (xc40 cy xh xq), (xc41 cy xh xq), (xc43 cy xh xq), (xc44 cy xh xq), (xc45 cy xh xq), (xc46 cy xh xq)]) (wQi D (fAgree xt) (fun _ : Unit => True) (fun _u : Unit => []) (va_A [(xc0 cy xh xq), (xc40 cy xh xq), (xc41 cy xh xq), (xc43 cy xh xq), (xc44 cy xh xq), (xc45 cy xh xq), (xc46 cy xh xq)] sz)) 3 11 (va_A [(xc0 cy xh xq), (xc40 cy xh xq), (xc41 cy xh xq), (xc43 cy xh xq), (xc44 cy xh xq), (xc45 cy xh xq), (xc46 cy xh xq)] sz) := by
  refine met_go (y := yX11_agree) (ws := wsX11_agree) (av := [.ref xh, .int xt]) (cc := cX11_agree) (maxL := 4) (ret := (some .int)) (Qc := fun A => wQi D (fAgree xt) (fun _ : Unit => True) (fun _u : Unit => []) A) (by decide) rfl (Nat.le_of_ble_eq_true rfl) ?_
  intro p e s m below meth c ls A hx hb hr hml hown hts hlocks hname hKX hP hD hA hS hl
  have hown : s.vm.findClass RX11 = some m.cls := hown
  have hl : lv_has ls 4 [(0, .ref xh), (1, .int xt)] := hl
  refine lv_aload_n hx hb dX11_agree_0 rfl (lv_at hl 0 rfl) ?_
  refine va_get (D := D) (ci := 11) (v := .ref (xq 43)) (C := RX11) (T := TX11) (N := 18) hx hb hts iw_X11_agree_X11 hown hKX.1 hP 0 rfl rfl 5 (by decide) (hts (.fieldLink RX11 47 "TrainFerry" "agreed" "LTrainFerry$Schedule;") (by decide +kernel)) (fun _ h9 => h9) rfl dX11_agree_1 ?_
  refine va_get (D := D) (ci := 6) (v := .int 0) (C := RX6) (T := TX6) (N := 4) hx hb hts iw_X11_agree_X6 hown hKX.1 hP 4 rfl rfl 2 (by decide) (hts (.fieldLink RX11 144 "TrainFerry$Schedule" "size" "I") (by decide +kernel)) (fun _ h9 => h9) rfl dX11_agree_4 ?_
  refine lv_istore_n (lv' := [(2, .int 0), (0, .ref xh), (1, .int xt)]) hx hb dX11_agree_7 rfl hl (by decide) rfl (fun ls hl => ?_)
  refine lv_aload_n hx hb dX11_agree_8 rfl (lv_at hl 1 rfl) ?_
  refine lv_iload_n hx hb dX11_agree_9 rfl (lv_at hl 2 rfl) ?_
  refine cl_i (wr := [(xc40 cy xh xq), (xc41 cy xh xq), (xc43 cy xh xq), (xc44 cy xh xq), (xc45 cy xh xq), (xc46 cy xh xq)]) (va_runV (As := [.int xt]) (rest := []) ⟨hx, hb, hml, hown, hts⟩ (c_canBeTold l D cy xh xq xt _) (cwV 1 hts gX11_agree_X11_canBeTold rfl rfl rfl (by decide +kernel) ⟨(Nat.le_of_ble_eq_true rfl), (Nat.le_of_ble_eq_true rfl)⟩) (pre_V hKX hP hD (ci := 11) (q0 := 0) rfl rfl [0] rfl (by decide) rfl) rfl rfl hl.1 rfl (lv_room (Nat.le_of_ble_eq_true rfl)) dX11_agree_10 ⟨(Nat.le_of_ble_eq_true rfl), (Nat.le_of_ble_eq_true rfl)⟩) hP hD hS hA [0] [1, 2, 3, 4, 5, 6] rfl rfl (by decide) (by decide) (fun u1 H locs _ hP hD hS => ?_)
  have hP : va_P D vwCl [(xc40 cy xh xq), (xc41 cy xh xq), (xc43 cy xh xq), (xc44 cy xh xq), (xc45 cy xh xq), (xc46 cy xh xq), (xh, .inr (11, [.ref (xq 0), .ref (xq 23), .ref (xq 38), .ref (xq 39), .ref (xq 42), .ref (xq 43), .null, .null, .int 0, .int 0, .int 0, .int 0, .int 0, .int (-1), .int 0, .int 0, .int 5, .int 100]))] H := hP
  have hD : va_D A [(xc40 cy xh xq), (xc41 cy xh xq), (xc43 cy xh xq), (xc44 cy xh xq), (xc45 cy xh xq), (xc46 cy xh xq), (xh, .inr (11, [.ref (xq 0), .ref (xq 23), .ref (xq 38), .ref (xq 39), .ref (xq 42), .ref (xq 43), .null, .null, .int 0, .int 0, .int 0, .int 0, .int 0, .int (-1), .int 0, .int 0, .int 5, .int 100]))] := hD
  refine lv_if_eq (tgt := 22) hx hb dX11_agree_13 (by decide) (fun c2 => ?_) (fun c2 => ?_)
  · refine lv_iconst (v := (-1)) hx hb dX11_agree_22 (by decide) ?_
    exact en_i hx hb hr hlocks () (by simp [fAgree, wic1, wic2, wic3, wic4, wic5, wic6, c2]) trivial (hP.sub [] rfl) (hD.sub [] (by decide) rfl) hS (Nat.le_of_ble_eq_true rfl) (Nat.le_of_ble_eq_true rfl) dX11_agree_23
  · refine lv_iload_n hx hb dX11_agree_16 rfl (lv_at hl 0 rfl) ?_
    refine lv_bipush (v := 20) hx hb dX11_agree_17 (by decide) ?_
    refine lv_icmp_lt (tgt := 24) hx hb dX11_agree_19 (by decide) (fun _ => ?_) (fun c9 => absurd (by decide) c9)
    refine lv_aload_n hx hb dX11_agree_24 rfl (lv_at hl 1 rfl) ?_
    refine va_get (D := D) (ci := 11) (v := .ref (xq 39)) (C := RX11) (T := TX11) (N := 18) hx hb hts iw_X11_agree_X11 hown hKX.1 hP 6 rfl rfl 3 (by decide) (hts (.fieldLink RX11 32 "TrainFerry" "reader" "LTrainFerry$AgreementReader;") (by decide +kernel)) (fun _ h9 => h9) rfl dX11_agree_25 ?_
    refine cl_q (wr := [(xc43 cy xh xq), (xc44 cy xh xq), (xc45 cy xh xq), (xc46 cy xh xq), (xh, .inr (11, [.ref (xq 0), .ref (xq 23), .ref (xq 38), .ref (xq 39), .ref (xq 42), .ref (xq 43), .null, .null, .int 0, .int 0, .int 0, .int 0, .int 0, .int (-1), .int 0, .int 0, .int 5, .int 100]))]) (va_runV (As := []) (rest := []) ⟨hx, hb, hml, hown, hts⟩ (c_read l D cy (xq 39) (xq 40) (xq 41) _) (cwV 0 hts gX11_agree_X1_read rfl rfl rfl (by decide +kernel) ⟨(Nat.le_of_ble_eq_true rfl), (Nat.le_of_ble_eq_true rfl)⟩) (pre_V hKX hP hD (ci := 1) (q0 := 0) rfl rfl [0, 1] rfl (by decide) rfl) rfl rfl hl.1 rfl (lv_room (Nat.le_of_ble_eq_true rfl)) dX11_agree_28 ⟨(Nat.le_of_ble_eq_true rfl), (Nat.le_of_ble_eq_true rfl)⟩) hP hD hS hA [0, 1] [2, 3, 4, 5, 6] rfl rfl (by decide) (by decide) (fun u3 H locs _ hP hD hS => ?_)
    have hP : va_P D vwCl [(xc43 cy xh xq), (xc44 cy xh xq), (xc45 cy xh xq), (xc46 cy xh xq), (xh, .inr (11, [.ref (xq 0), .ref (xq 23), .ref (xq 38), .ref (xq 39), .ref (xq 42), .ref (xq 43), .null, .null, .int 0, .int 0, .int 0, .int 0, .int 0, .int (-1), .int 0, .int 0, .int 5, .int 100])), ((u3 0), .inr (0, [.ref (u3 1), .ref (u3 2), .int 0])), ((u3 1), .inl (cy 0, 4, .inl (fun _ => 0))), ((u3 2), .inl (cy 0, 4, .inl (fun _ => 0))), ((xq 39), .inr (1, [.ref (xq 40), .int 0, .int (-1), .int 0, .int 0, .int 0])), ((xq 40), .inr (9, [.ref (xq 41), .int 0]))] H := hP
    have hD : va_D A [(xc43 cy xh xq), (xc44 cy xh xq), (xc45 cy xh xq), (xc46 cy xh xq), (xh, .inr (11, [.ref (xq 0), .ref (xq 23), .ref (xq 38), .ref (xq 39), .ref (xq 42), .ref (xq 43), .null, .null, .int 0, .int 0, .int 0, .int 0, .int 0, .int (-1), .int 0, .int 0, .int 5, .int 100])), ((u3 0), .inr (0, [.ref (u3 1), .ref (u3 2), .int 0])), ((u3 1), .inl (cy 0, 4, .inl (fun _ => 0))), ((u3 2), .inl (cy 0, 4, .inl (fun _ => 0))), ((xq 39), .inr (1, [.ref (xq 40), .int 0, .int (-1), .int 0, .int 0, .int 0])), ((xq 40), .inr (9, [.ref (xq 41), .int 0]))] := hD
    refine lv_csv (.ref (u3 0)) rfl ?_
    refine lv_astore_n (lv' := [(3, .ref (u3 0)), (2, .int 0), (0, .ref xh), (1, .int xt)]) hx hb dX11_agree_31 rfl hl (by decide) rfl (fun ls hl => ?_)
    refine lv_aload_n hx hb dX11_agree_32 rfl (lv_at hl 2 rfl) ?_
    refine va_get (D := D) (ci := 11) (v := .ref (xq 39)) (C := RX11) (T := TX11) (N := 18) hx hb hts iw_X11_agree_X11 hown hKX.1 hP 4 rfl rfl 3 (by decide) (hts (.fieldLink RX11 32 "TrainFerry" "reader" "LTrainFerry$AgreementReader;") (by decide +kernel)) (fun _ h9 => h9) rfl dX11_agree_33 ?_
    refine va_get (D := D) (ci := 1) (v := .ref (xq 40)) (C := RX1) (T := TX1) (N := 6) hx hb hts iw_X11_agree_X1 hown hKX.1 hP 8 rfl rfl 0 (by decide) (hts (.fieldLink RX11 156 "TrainFerry$AgreementReader" "tape" "LTrainFerry$Tape;") (by decide +kernel)) (fun _ h9 => h9) rfl dX11_agree_36 ?_
    refine lv_iconst (v := 0) hx hb dX11_agree_39 (by decide) ?_
    refine va_put (D := D) (ci := 9) (v := .int 0) (ty := .int) (C := RX9) (T := TX9) (N := 2) hx hb hts iw_X11_agree_X9 tyX9 tyX9_ok nmX9 hown hKX.1 hP hD hS 9 rfl rfl 1 (by decide) (hts (.fieldLink RX11 160 "TrainFerry$Tape" "size" "I") (by decide +kernel)) (fun _ h9 => h9) rfl (by decide +kernel) rfl rfl (Nat.le_of_ble_eq_true rfl) dX11_agree_40 (fun H locs hP hD hS => ?_)
    have hP : va_P D vwCl [(xc43 cy xh xq), (xc44 cy xh xq), (xc45 cy xh xq), (xc46 cy xh xq), (xh, .inr (11, [.ref (xq 0), .ref (xq 23), .ref (xq 38), .ref (xq 39), .ref (xq 42), .ref (xq 43), .null, .null, .int 0, .int 0, .int 0, .int 0, .int 0, .int (-1), .int 0, .int 0, .int 5, .int 100])), ((u3 0), .inr (0, [.ref (u3 1), .ref (u3 2), .int 0])), ((u3 1), .inl (cy 0, 4, .inl (fun _ => 0))), ((u3 2), .inl (cy 0, 4, .inl (fun _ => 0))), ((xq 39), .inr (1, [.ref (xq 40), .int 0, .int (-1), .int 0, .int 0, .int 0])), ((xq 40), .inr (9, [.ref (xq 41), .int 0]))] H := hP
    have hD : va_D A [(xc43 cy xh xq), (xc44 cy xh xq), (xc45 cy xh xq), (xc46 cy xh xq), (xh, .inr (11, [.ref (xq 0), .ref (xq 23), .ref (xq 38), .ref (xq 39), .ref (xq 42), .ref (xq 43), .null, .null, .int 0, .int 0, .int 0, .int 0, .int 0, .int (-1), .int 0, .int 0, .int 5, .int 100])), ((u3 0), .inr (0, [.ref (u3 1), .ref (u3 2), .int 0])), ((u3 1), .inl (cy 0, 4, .inl (fun _ => 0))), ((u3 2), .inl (cy 0, 4, .inl (fun _ => 0))), ((xq 39), .inr (1, [.ref (xq 40), .int 0, .int (-1), .int 0, .int 0, .int 0])), ((xq 40), .inr (9, [.ref (xq 41), .int 0]))] := hD
    refine lv_aload_n hx hb dX11_agree_43 rfl (lv_at hl 0 rfl) ?_
    refine lv_ifnonnull (tgt := 58) hx hb dX11_agree_44 (by decide) ?_
    refine lv_aload_n hx hb dX11_agree_58 rfl (lv_at hl 2 rfl) ?_
    refine va_get (D := D) (ci := 11) (v := .ref (xq 42)) (C := RX11) (T := TX11) (N := 18) hx hb hts iw_X11_agree_X11 hown hKX.1 hP 4 rfl rfl 4 (by decide) (hts (.fieldLink RX11 38 "TrainFerry" "agreements" "[LTrainFerry$Agreement;") (by decide +kernel)) (fun _ h9 => h9) rfl dX11_agree_59 ?_
    refine lv_iload_n hx hb dX11_agree_62 rfl (lv_at hl 1 rfl) ?_
    refine lv_aload_n hx hb dX11_agree_63 rfl (lv_at hl 0 rfl) ?_
    refine va_astq hx hb hKX.1 hP hD hS 0 7 5 0 rfl rfl rfl rfl (vind (by decide)) dX11_agree_64 (fun H locs hP hD hS => ?_)
    have hP : va_P D vwCl [((xq 42), .inl (cy 7, 20, .inr (.inr (.inr (.inr (va_up (fun _ => none) 0 (some (u3 0)))))))), (xc44 cy xh xq), (xc45 cy xh xq), (xc46 cy xh xq), (xh, .inr (11, [.ref (xq 0), .ref (xq 23), .ref (xq 38), .ref (xq 39), .ref (xq 42), .ref (xq 43), .null, .null, .int 0, .int 0, .int 0, .int 0, .int 0, .int (-1), .int 0, .int 0, .int 5, .int 100])), ((u3 0), .inr (0, [.ref (u3 1), .ref (u3 2), .int 0])), ((u3 1), .inl (cy 0, 4, .inl (fun _ => 0))), ((u3 2), .inl (cy 0, 4, .inl (fun _ => 0))), ((xq 39), .inr (1, [.ref (xq 40), .int 0, .int (-1), .int 0, .int 0, .int 0])), ((xq 40), .inr (9, [.ref (xq 41), .int 0]))] H := hP
    have hD : va_D A [((xq 42), .inl (cy 7, 20, .inr (.inr (.inr (.inr (va_up (fun _ => none) 0 (some (u3 0)))))))), (xc44 cy xh xq), (xc45 cy xh xq), (xc46 cy xh xq), (xh, .inr (11, [.ref (xq 0), .ref (xq 23), .ref (xq 38), .ref (xq 39), .ref (xq 42), .ref (xq 43), .null, .null, .int 0, .int 0, .int 0, .int 0, .int 0, .int (-1), .int 0, .int 0, .int 5, .int 100])), ((u3 0), .inr (0, [.ref (u3 1), .ref (u3 2), .int 0])), ((u3 1), .inl (cy 0, 4, .inl (fun _ => 0))), ((u3 2), .inl (cy 0, 4, .inl (fun _ => 0))), ((xq 39), .inr (1, [.ref (xq 40), .int 0, .int (-1), .int 0, .int 0, .int 0])), ((xq 40), .inr (9, [.ref (xq 41), .int 0]))] := hD
    refine lv_aload_n hx hb dX11_agree_65 rfl (lv_at hl 2 rfl) ?_
    refine va_get (D := D) (ci := 11) (v := .ref (xq 43)) (C := RX11) (T := TX11) (N := 18) hx hb hts iw_X11_agree_X11 hown hKX.1 hP 4 rfl rfl 5 (by decide) (hts (.fieldLink RX11 47 "TrainFerry" "agreed" "LTrainFerry$Schedule;") (by decide +kernel)) (fun _ h9 => h9) rfl dX11_agree_66 ?_
    refine lv_iload_n hx hb dX11_agree_69 rfl (lv_at hl 3 rfl) ?_
    refine lv_iload_n hx hb dX11_agree_70 rfl (lv_at hl 1 rfl) ?_
    refine cl_v (wr := [((xq 42), .inl (cy 7, 20, .inr (.inr (.inr (.inr (va_up (fun _ => none) 0 (some (u3 0)))))))), (xh, .inr (11, [.ref (xq 0), .ref (xq 23), .ref (xq 38), .ref (xq 39), .ref (xq 42), .ref (xq 43), .null, .null, .int 0, .int 0, .int 0, .int 0, .int 0, .int (-1), .int 0, .int 0, .int 5, .int 100])), ((u3 0), .inr (0, [.ref (u3 1), .ref (u3 2), .int 0])), ((u3 1), .inl (cy 0, 4, .inl (fun _ => 0))), ((u3 2), .inl (cy 0, 4, .inl (fun _ => 0))), ((xq 39), .inr (1, [.ref (xq 40), .int 0, .int (-1), .int 0, .int 0, .int 0])), ((xq 40), .inr (9, [.ref (xq 41), .int 0]))]) (va_runV (As := [.int xt, .int 0]) (rest := []) ⟨hx, hb, hml, hown, hts⟩ (c_tell_20 l D cy (xq 43) (xq 44) (xq 45) xt 0 _) (cwV 2 hts gX11_agree_X6_tell rfl rfl rfl (by decide +kernel) ⟨(Nat.le_of_ble_eq_true rfl), (Nat.le_of_ble_eq_true rfl)⟩) (pre_V hKX hP hD (ci := 6) (q0 := 1) rfl rfl [1, 2, 3] rfl (by decide) rfl) rfl rfl hl.1 rfl (lv_room (Nat.le_of_ble_eq_true rfl)) dX11_agree_71 ⟨(Nat.le_of_ble_eq_true rfl), (Nat.le_of_ble_eq_true rfl)⟩) hP hD hS hA [1, 2, 3] [0, 4, 5, 6, 7, 8, 9] rfl rfl (by decide) (by decide) (fun u4 H locs _ hP hD hS => ?_)
    have hP : va_P D vwCl [((xq 42), .inl (cy 7, 20, .inr (.inr (.inr (.inr (va_up (fun _ => none) 0 (some (u3 0)))))))), (xh, .inr (11, [.ref (xq 0), .ref (xq 23), .ref (xq 38), .ref (xq 39), .ref (xq 42), .ref (xq 43), .null, .null, .int 0, .int 0, .int 0, .int 0, .int 0, .int (-1), .int 0, .int 0, .int 5, .int 100])), ((u3 0), .inr (0, [.ref (u3 1), .ref (u3 2), .int 0])), ((u3 1), .inl (cy 0, 4, .inl (fun _ => 0))), ((u3 2), .inl (cy 0, 4, .inl (fun _ => 0))), ((xq 39), .inr (1, [.ref (xq 40), .int 0, .int (-1), .int 0, .int 0, .int 0])), ((xq 40), .inr (9, [.ref (xq 41), .int 0]))] H := hP
    have hD : va_D A [((xq 42), .inl (cy 7, 20, .inr (.inr (.inr (.inr (va_up (fun _ => none) 0 (some (u3 0)))))))), (xh, .inr (11, [.ref (xq 0), .ref (xq 23), .ref (xq 38), .ref (xq 39), .ref (xq 42), .ref (xq 43), .null, .null, .int 0, .int 0, .int 0, .int 0, .int 0, .int (-1), .int 0, .int 0, .int 5, .int 100])), ((u3 0), .inr (0, [.ref (u3 1), .ref (u3 2), .int 0])), ((u3 1), .inl (cy 0, 4, .inl (fun _ => 0))), ((u3 2), .inl (cy 0, 4, .inl (fun _ => 0))), ((xq 39), .inr (1, [.ref (xq 40), .int 0, .int (-1), .int 0, .int 0, .int 0])), ((xq 40), .inr (9, [.ref (xq 41), .int 0]))] := hD
    refine lv_iload_n hx hb dX11_agree_74 rfl (lv_at hl 1 rfl) ?_
    exact en_i hx hb hr hlocks () (by simp [fAgree, wic1, wic2, wic3, wic4, wic5, wic6, c2]) trivial (hP.sub [] rfl) (hD.sub [] (by decide) rfl) hS (Nat.le_of_ble_eq_true rfl) (Nat.le_of_ble_eq_true rfl) dX11_agree_75
theorem iw_X11_place_X11 : ∀ w ∈ wsX110, w ∈ wsX11_place := by decide +kernel
theorem iw_X11_place_X1 : ∀ w ∈ wsX10, w ∈ wsX11_place := by decide +kernel
set_option maxHeartbeats 4000000 in
set_option maxRecDepth 100000 in
theorem c_place (l : Launch) (D : va_G) (cy : Nat → ClassId) (xh : Nat) (xq : Nat → Nat) (sz : Nat) : Met l yX11_place wsX11_place ({ frames := 0, cells := 0, slots := 0, locals := 0 }) (wPre D cy [.ref xh] sz [(xc0 cy xh xq), (xc40 cy xh xq)]) (wQi D (-1) (fun _ : Unit => True) (fun _u : Unit => []) (va_A [(xc0 cy xh xq), (xc40 cy xh xq)] sz)) 0 0 (va_A [(xc0 cy xh xq), (xc40 cy xh xq)] sz) := by
  refine met_go (y := yX11_place) (ws := wsX11_place) (av := [.ref xh]) (cc := cX11_place) (maxL := 1) (ret := (some .int)) (Qc := fun A => wQi D (-1) (fun _ : Unit => True) (fun _u : Unit => []) A) (by decide) rfl (Nat.le_of_ble_eq_true rfl) ?_
  intro p e s m below meth c ls A hx hb hr hml hown hts hlocks hname hKX hP hD hA hS hl
  have hown : s.vm.findClass RX11 = some m.cls := hown
  have hl : lv_has ls 1 [(0, .ref xh)] := hl
  refine lv_aload_n hx hb dX11_place_0 rfl (lv_at hl 0 rfl) ?_
  refine va_get (D := D) (ci := 11) (v := .ref (xq 39)) (C := RX11) (T := TX11) (N := 18) hx hb hts iw_X11_place_X11 hown hKX.1 hP 0 rfl rfl 3 (by decide) (hts (.fieldLink RX11 32 "TrainFerry" "reader" "LTrainFerry$AgreementReader;") (by decide +kernel)) (fun _ h9 => h9) rfl dX11_place_1 ?_
  refine va_get (D := D) (ci := 1) (v := .int (-1)) (C := RX1) (T := TX1) (N := 6) hx hb hts iw_X11_place_X1 hown hKX.1 hP 1 rfl rfl 2 (by decide) (hts (.fieldLink RX11 173 "TrainFerry$AgreementReader" "faultPlace" "I") (by decide +kernel)) (fun _ h9 => h9) rfl dX11_place_4 ?_
  exact en_i hx hb hr hlocks () rfl trivial (hP.sub [] rfl) (hD.sub [] (by decide) rfl) hS (Nat.le_of_ble_eq_true rfl) (Nat.le_of_ble_eq_true rfl) dX11_place_7
theorem iw_X11_on_X11 : ∀ w ∈ wsX110, w ∈ wsX11_on := by decide +kernel
set_option maxHeartbeats 4000000 in
set_option maxRecDepth 100000 in
theorem c_on (l : Launch) (D : va_G) (cy : Nat → ClassId) (xh : Nat) (xq : Nat → Nat) (xt : Int32) (xd : Int32) (sz : Nat) : Met l yX11_on wsX11_on ({ frames := 3, cells := 0, slots := 0, locals := 64 }) (wPre D cy [.ref xh, .int xt, .int xd] sz [(xc0 cy xh xq), (xc1 cy xh xq), (xc2 cy xh xq), (xc3 cy xh xq), (xc4 cy xh xq), (xc6 cy xh xq), (xc8 cy xh xq)]) (wQi D (-1) (fun _ : Unit => True) (fun _u : Unit => []) (va_A [(xc0 cy xh xq), (xc1 cy xh xq), (xc2 cy xh xq), (xc3 cy xh xq), (xc4 cy xh xq), (xc6 cy xh xq), (xc8 cy xh xq)] sz)) 0 0 (va_A [(xc0 cy xh xq), (xc1 cy xh xq), (xc2 cy xh xq), (xc3 cy xh xq), (xc4 cy xh xq), (xc6 cy xh xq), (xc8 cy xh xq)] sz) := by
  refine met_go (y := yX11_on) (ws := wsX11_on) (av := [.ref xh, .int xt, .int xd]) (cc := cX11_on) (maxL := 6) (ret := (some .int)) (Qc := fun A => wQi D (-1) (fun _ : Unit => True) (fun _u : Unit => []) A) (by decide) rfl (Nat.le_of_ble_eq_true rfl) ?_
  intro p e s m below meth c ls A hx hb hr hml hown hts hlocks hname hKX hP hD hA hS hl
  have hown : s.vm.findClass RX11 = some m.cls := hown
  have hl : lv_has ls 6 [(0, .ref xh), (1, .int xt), (2, .int xd)] := hl
  rcases sp3 xt with rfl | rfl | rfl | o1
  · refine lv_iload_n hx hb dX11_on_0 rfl (lv_at hl 2 rfl) ?_
    refine cl_i (wr := [(xc0 cy xh xq), (xc1 cy xh xq), (xc2 cy xh xq), (xc3 cy xh xq), (xc4 cy xh xq), (xc6 cy xh xq), (xc8 cy xh xq)]) (va_runS (As := [.int xd]) (rest := []) ⟨hx, hb, hml, hown, hts⟩ (c_isDeckTrack l D cy xd _) (va_cwS 1 hts gX11_on_X11_isDeckTrack rfl rfl rfl (by decide +kernel) ⟨(Nat.le_of_ble_eq_true rfl), (Nat.le_of_ble_eq_true rfl)⟩) (pre_S hKX hP hD [] rfl (by decide) rfl) rfl rfl hl.1 rfl (lv_room (Nat.le_of_ble_eq_true rfl)) dX11_on_1 ⟨(Nat.le_of_ble_eq_true rfl), (Nat.le_of_ble_eq_true rfl)⟩) hP hD hS hA [] [0, 1, 2, 3, 4, 5, 6] rfl rfl (by decide) (by decide) (fun u2 H locs _ hP hD hS => ?_)
    have hP : va_P D vwCl [(xc0 cy xh xq), (xc1 cy xh xq), (xc2 cy xh xq), (xc3 cy xh xq), (xc4 cy xh xq), (xc6 cy xh xq), (xc8 cy xh xq)] H := hP
    have hD : va_D A [(xc0 cy xh xq), (xc1 cy xh xq), (xc2 cy xh xq), (xc3 cy xh xq), (xc4 cy xh xq), (xc6 cy xh xq), (xc8 cy xh xq)] := hD
    refine lv_if_ne (tgt := 9) hx hb dX11_on_4 (by decide) (fun c3 => ?_) (fun c3 => ?_)
    · refine lv_aload_n hx hb dX11_on_9 rfl (lv_at hl 0 rfl) ?_
      refine va_get (D := D) (ci := 11) (v := .int 0) (C := RX11) (T := TX11) (N := 18) hx hb hts iw_X11_on_X11 hown hKX.1 hP 0 rfl rfl 11 (by decide) (hts (.fieldLink RX11 70 "TrainFerry" "ferryAt" "I") (by decide +kernel)) (fun _ h9 => h9) rfl dX11_on_10 ?_
      refine lv_iconst (v := 2) hx hb dX11_on_13 (by decide) ?_
      refine lv_icmp_ne (tgt := 20) hx hb dX11_on_14 (by decide) (fun _ => ?_) (fun c9 => absurd c9 (by decide))
      refine lv_aload_n hx hb dX11_on_20 rfl (lv_at hl 0 rfl) ?_
      refine lv_aload_n hx hb dX11_on_21 rfl (lv_at hl 0 rfl) ?_
      refine va_get (D := D) (ci := 11) (v := .int 0) (C := RX11) (T := TX11) (N := 18) hx hb hts iw_X11_on_X11 hown hKX.1 hP 0 rfl rfl 11 (by decide) (hts (.fieldLink RX11 70 "TrainFerry" "ferryAt" "I") (by decide +kernel)) (fun _ h9 => h9) rfl dX11_on_22 ?_
      refine lv_iload_n hx hb dX11_on_25 rfl (lv_at hl 1 rfl) ?_
      refine cl_q (wr := [(xc4 cy xh xq), (xc6 cy xh xq), (xc8 cy xh xq)]) (va_runV (As := [.int 0, .int 0]) (rest := []) ⟨hx, hb, hml, hown, hts⟩ (c_yardRow_00 l D cy xh xq _) (cwV 2 hts gX11_on_X11_yardRow rfl rfl rfl (by decide +kernel) ⟨(Nat.le_of_ble_eq_true rfl), (Nat.le_of_ble_eq_true rfl)⟩) (pre_V hKX hP hD (ci := 11) (q0 := 0) rfl rfl [0, 1, 2, 3] rfl (by decide) rfl) rfl rfl hl.1 rfl (lv_room (Nat.le_of_ble_eq_true rfl)) dX11_on_26 ⟨(Nat.le_of_ble_eq_true rfl), (Nat.le_of_ble_eq_true rfl)⟩) hP hD hS hA [0, 1, 2, 3] [4, 5, 6] rfl rfl (by decide) (by decide) (fun u4 H locs _ hP hD hS => ?_)
      have hP : va_P D vwCl [(xc4 cy xh xq), (xc6 cy xh xq), (xc8 cy xh xq), (xc0 cy xh xq), (xc1 cy xh xq), (xc2 cy xh xq), (xc3 cy xh xq)] H := hP
      have hD : va_D A [(xc4 cy xh xq), (xc6 cy xh xq), (xc8 cy xh xq), (xc0 cy xh xq), (xc1 cy xh xq), (xc2 cy xh xq), (xc3 cy xh xq)] := hD
      refine lv_csv (.ref (xq 3)) rfl ?_
      refine lv_astore_n (lv' := [(3, .ref (xq 3)), (0, .ref xh), (1, .int 0), (2, .int xd)]) hx hb dX11_on_29 rfl hl (by decide) rfl (fun ls hl => ?_)
      refine lv_aload_n hx hb dX11_on_30 rfl (lv_at hl 0 rfl) ?_
      refine lv_ifnonnull (tgt := 38) hx hb dX11_on_31 (by decide) ?_
      refine lv_aload_n hx hb dX11_on_38 rfl (lv_at hl 0 rfl) ?_
      refine lv_iconst (v := 0) hx hb dX11_on_39 (by decide) ?_
      refine cl_q (wr := [(xc6 cy xh xq), (xc8 cy xh xq), (xc0 cy xh xq), (xc1 cy xh xq), (xc2 cy xh xq), (xc3 cy xh xq)]) (va_runV (As := [.int 0]) (rest := []) ⟨hx, hb, hml, hown, hts⟩ (c_wagonAt l D cy (xq 3) (xq 4) 0 _) (cwV 1 hts gX11_on_X5_wagonAt rfl rfl rfl (by decide +kernel) ⟨(Nat.le_of_ble_eq_true rfl), (Nat.le_of_ble_eq_true rfl)⟩) (pre_V hKX hP hD (ci := 5) (q0 := 0) rfl rfl [0] rfl (by decide) rfl) rfl rfl hl.1 rfl (lv_room (Nat.le_of_ble_eq_true rfl)) dX11_on_40 ⟨(Nat.le_of_ble_eq_true rfl), (Nat.le_of_ble_eq_true rfl)⟩) hP hD hS hA [0] [1, 2, 3, 4, 5, 6] rfl rfl (by decide) (by decide) (fun u5 H locs _ hP hD hS => ?_)
      have hP : va_P D vwCl [(xc6 cy xh xq), (xc8 cy xh xq), (xc0 cy xh xq), (xc1 cy xh xq), (xc2 cy xh xq), (xc3 cy xh xq), ((xq 3), .inr (5, [.ref (xq 4), .int 0, .int 0]))] H := hP
      have hD : va_D A [(xc6 cy xh xq), (xc8 cy xh xq), (xc0 cy xh xq), (xc1 cy xh xq), (xc2 cy xh xq), (xc3 cy xh xq), ((xq 3), .inr (5, [.ref (xq 4), .int 0, .int 0]))] := hD
      refine lv_csv (.null) rfl ?_
      refine lv_astoreN (lv' := [(4, .null), (3, .ref (xq 3)), (0, .ref xh), (1, .int 0), (2, .int xd)]) hx hb dX11_on_43 hl (by decide) rfl (fun ls hl => ?_)
      refine lv_aloadN hx hb dX11_on_45 (lv_at hl 0 rfl) ?_
      refine lv_ifnonnullN hx hb dX11_on_47 ?_
      refine lv_iconst (v := (-1)) hx hb dX11_on_50 (by decide) ?_
      exact en_i hx hb hr hlocks () rfl trivial (hP.sub [] rfl) (hD.sub [] (by decide) rfl) hS (Nat.le_of_ble_eq_true rfl) (Nat.le_of_ble_eq_true rfl) dX11_on_51
    · refine lv_iconst (v := (-1)) hx hb dX11_on_7 (by decide) ?_
      exact en_i hx hb hr hlocks () rfl trivial (hP.sub [] rfl) (hD.sub [] (by decide) rfl) hS (Nat.le_of_ble_eq_true rfl) (Nat.le_of_ble_eq_true rfl) dX11_on_8
  · refine lv_iload_n hx hb dX11_on_0 rfl (lv_at hl 2 rfl) ?_
    refine cl_i (wr := [(xc0 cy xh xq), (xc1 cy xh xq), (xc2 cy xh xq), (xc3 cy xh xq), (xc4 cy xh xq), (xc6 cy xh xq), (xc8 cy xh xq)]) (va_runS (As := [.int xd]) (rest := []) ⟨hx, hb, hml, hown, hts⟩ (c_isDeckTrack l D cy xd _) (va_cwS 1 hts gX11_on_X11_isDeckTrack rfl rfl rfl (by decide +kernel) ⟨(Nat.le_of_ble_eq_true rfl), (Nat.le_of_ble_eq_true rfl)⟩) (pre_S hKX hP hD [] rfl (by decide) rfl) rfl rfl hl.1 rfl (lv_room (Nat.le_of_ble_eq_true rfl)) dX11_on_1 ⟨(Nat.le_of_ble_eq_true rfl), (Nat.le_of_ble_eq_true rfl)⟩) hP hD hS hA [] [0, 1, 2, 3, 4, 5, 6] rfl rfl (by decide) (by decide) (fun u6 H locs _ hP hD hS => ?_)
    have hP : va_P D vwCl [(xc0 cy xh xq), (xc1 cy xh xq), (xc2 cy xh xq), (xc3 cy xh xq), (xc4 cy xh xq), (xc6 cy xh xq), (xc8 cy xh xq)] H := hP
    have hD : va_D A [(xc0 cy xh xq), (xc1 cy xh xq), (xc2 cy xh xq), (xc3 cy xh xq), (xc4 cy xh xq), (xc6 cy xh xq), (xc8 cy xh xq)] := hD
    refine lv_if_ne (tgt := 9) hx hb dX11_on_4 (by decide) (fun c7 => ?_) (fun c7 => ?_)
    · refine lv_aload_n hx hb dX11_on_9 rfl (lv_at hl 0 rfl) ?_
      refine va_get (D := D) (ci := 11) (v := .int 0) (C := RX11) (T := TX11) (N := 18) hx hb hts iw_X11_on_X11 hown hKX.1 hP 0 rfl rfl 11 (by decide) (hts (.fieldLink RX11 70 "TrainFerry" "ferryAt" "I") (by decide +kernel)) (fun _ h9 => h9) rfl dX11_on_10 ?_
      refine lv_iconst (v := 2) hx hb dX11_on_13 (by decide) ?_
      refine lv_icmp_ne (tgt := 20) hx hb dX11_on_14 (by decide) (fun _ => ?_) (fun c9 => absurd c9 (by decide))
      refine lv_aload_n hx hb dX11_on_20 rfl (lv_at hl 0 rfl) ?_
      refine lv_aload_n hx hb dX11_on_21 rfl (lv_at hl 0 rfl) ?_
      refine va_get (D := D) (ci := 11) (v := .int 0) (C := RX11) (T := TX11) (N := 18) hx hb hts iw_X11_on_X11 hown hKX.1 hP 0 rfl rfl 11 (by decide) (hts (.fieldLink RX11 70 "TrainFerry" "ferryAt" "I") (by decide +kernel)) (fun _ h9 => h9) rfl dX11_on_22 ?_
      refine lv_iload_n hx hb dX11_on_25 rfl (lv_at hl 1 rfl) ?_
      refine cl_q (wr := [(xc4 cy xh xq), (xc6 cy xh xq), (xc8 cy xh xq)]) (va_runV (As := [.int 0, .int 1]) (rest := []) ⟨hx, hb, hml, hown, hts⟩ (c_yardRow_01 l D cy xh xq _) (cwV 2 hts gX11_on_X11_yardRow rfl rfl rfl (by decide +kernel) ⟨(Nat.le_of_ble_eq_true rfl), (Nat.le_of_ble_eq_true rfl)⟩) (pre_V hKX hP hD (ci := 11) (q0 := 0) rfl rfl [0, 1, 2, 3] rfl (by decide) rfl) rfl rfl hl.1 rfl (lv_room (Nat.le_of_ble_eq_true rfl)) dX11_on_26 ⟨(Nat.le_of_ble_eq_true rfl), (Nat.le_of_ble_eq_true rfl)⟩) hP hD hS hA [0, 1, 2, 3] [4, 5, 6] rfl rfl (by decide) (by decide) (fun u8 H locs _ hP hD hS => ?_)
      have hP : va_P D vwCl [(xc4 cy xh xq), (xc6 cy xh xq), (xc8 cy xh xq), (xc0 cy xh xq), (xc1 cy xh xq), (xc2 cy xh xq), (xc3 cy xh xq)] H := hP
      have hD : va_D A [(xc4 cy xh xq), (xc6 cy xh xq), (xc8 cy xh xq), (xc0 cy xh xq), (xc1 cy xh xq), (xc2 cy xh xq), (xc3 cy xh xq)] := hD
      refine lv_csv (.ref (xq 5)) rfl ?_
      refine lv_astore_n (lv' := [(3, .ref (xq 5)), (0, .ref xh), (1, .int 1), (2, .int xd)]) hx hb dX11_on_29 rfl hl (by decide) rfl (fun ls hl => ?_)
      refine lv_aload_n hx hb dX11_on_30 rfl (lv_at hl 0 rfl) ?_
      refine lv_ifnonnull (tgt := 38) hx hb dX11_on_31 (by decide) ?_
      refine lv_aload_n hx hb dX11_on_38 rfl (lv_at hl 0 rfl) ?_
      refine lv_iconst (v := 0) hx hb dX11_on_39 (by decide) ?_
      refine cl_q (wr := [(xc4 cy xh xq), (xc8 cy xh xq), (xc0 cy xh xq), (xc1 cy xh xq), (xc2 cy xh xq), (xc3 cy xh xq)]) (va_runV (As := [.int 0]) (rest := []) ⟨hx, hb, hml, hown, hts⟩ (c_wagonAt l D cy (xq 5) (xq 6) 0 _) (cwV 1 hts gX11_on_X5_wagonAt rfl rfl rfl (by decide +kernel) ⟨(Nat.le_of_ble_eq_true rfl), (Nat.le_of_ble_eq_true rfl)⟩) (pre_V hKX hP hD (ci := 5) (q0 := 1) rfl rfl [1] rfl (by decide) rfl) rfl rfl hl.1 rfl (lv_room (Nat.le_of_ble_eq_true rfl)) dX11_on_40 ⟨(Nat.le_of_ble_eq_true rfl), (Nat.le_of_ble_eq_true rfl)⟩) hP hD hS hA [1] [0, 2, 3, 4, 5, 6] rfl rfl (by decide) (by decide) (fun u9 H locs _ hP hD hS => ?_)
      have hP : va_P D vwCl [(xc4 cy xh xq), (xc8 cy xh xq), (xc0 cy xh xq), (xc1 cy xh xq), (xc2 cy xh xq), (xc3 cy xh xq), ((xq 5), .inr (5, [.ref (xq 6), .int 0, .int 0]))] H := hP
      have hD : va_D A [(xc4 cy xh xq), (xc8 cy xh xq), (xc0 cy xh xq), (xc1 cy xh xq), (xc2 cy xh xq), (xc3 cy xh xq), ((xq 5), .inr (5, [.ref (xq 6), .int 0, .int 0]))] := hD
      refine lv_csv (.null) rfl ?_
      refine lv_astoreN (lv' := [(4, .null), (3, .ref (xq 5)), (0, .ref xh), (1, .int 1), (2, .int xd)]) hx hb dX11_on_43 hl (by decide) rfl (fun ls hl => ?_)
      refine lv_aloadN hx hb dX11_on_45 (lv_at hl 0 rfl) ?_
      refine lv_ifnonnullN hx hb dX11_on_47 ?_
      refine lv_iconst (v := (-1)) hx hb dX11_on_50 (by decide) ?_
      exact en_i hx hb hr hlocks () rfl trivial (hP.sub [] rfl) (hD.sub [] (by decide) rfl) hS (Nat.le_of_ble_eq_true rfl) (Nat.le_of_ble_eq_true rfl) dX11_on_51
    · refine lv_iconst (v := (-1)) hx hb dX11_on_7 (by decide) ?_
      exact en_i hx hb hr hlocks () rfl trivial (hP.sub [] rfl) (hD.sub [] (by decide) rfl) hS (Nat.le_of_ble_eq_true rfl) (Nat.le_of_ble_eq_true rfl) dX11_on_8
  · refine lv_iload_n hx hb dX11_on_0 rfl (lv_at hl 2 rfl) ?_
    refine cl_i (wr := [(xc0 cy xh xq), (xc1 cy xh xq), (xc2 cy xh xq), (xc3 cy xh xq), (xc4 cy xh xq), (xc6 cy xh xq), (xc8 cy xh xq)]) (va_runS (As := [.int xd]) (rest := []) ⟨hx, hb, hml, hown, hts⟩ (c_isDeckTrack l D cy xd _) (va_cwS 1 hts gX11_on_X11_isDeckTrack rfl rfl rfl (by decide +kernel) ⟨(Nat.le_of_ble_eq_true rfl), (Nat.le_of_ble_eq_true rfl)⟩) (pre_S hKX hP hD [] rfl (by decide) rfl) rfl rfl hl.1 rfl (lv_room (Nat.le_of_ble_eq_true rfl)) dX11_on_1 ⟨(Nat.le_of_ble_eq_true rfl), (Nat.le_of_ble_eq_true rfl)⟩) hP hD hS hA [] [0, 1, 2, 3, 4, 5, 6] rfl rfl (by decide) (by decide) (fun u10 H locs _ hP hD hS => ?_)
    have hP : va_P D vwCl [(xc0 cy xh xq), (xc1 cy xh xq), (xc2 cy xh xq), (xc3 cy xh xq), (xc4 cy xh xq), (xc6 cy xh xq), (xc8 cy xh xq)] H := hP
    have hD : va_D A [(xc0 cy xh xq), (xc1 cy xh xq), (xc2 cy xh xq), (xc3 cy xh xq), (xc4 cy xh xq), (xc6 cy xh xq), (xc8 cy xh xq)] := hD
    refine lv_if_ne (tgt := 9) hx hb dX11_on_4 (by decide) (fun c11 => ?_) (fun c11 => ?_)
    · refine lv_aload_n hx hb dX11_on_9 rfl (lv_at hl 0 rfl) ?_
      refine va_get (D := D) (ci := 11) (v := .int 0) (C := RX11) (T := TX11) (N := 18) hx hb hts iw_X11_on_X11 hown hKX.1 hP 0 rfl rfl 11 (by decide) (hts (.fieldLink RX11 70 "TrainFerry" "ferryAt" "I") (by decide +kernel)) (fun _ h9 => h9) rfl dX11_on_10 ?_
      refine lv_iconst (v := 2) hx hb dX11_on_13 (by decide) ?_
      refine lv_icmp_ne (tgt := 20) hx hb dX11_on_14 (by decide) (fun _ => ?_) (fun c9 => absurd c9 (by decide))
      refine lv_aload_n hx hb dX11_on_20 rfl (lv_at hl 0 rfl) ?_
      refine lv_aload_n hx hb dX11_on_21 rfl (lv_at hl 0 rfl) ?_
      refine va_get (D := D) (ci := 11) (v := .int 0) (C := RX11) (T := TX11) (N := 18) hx hb hts iw_X11_on_X11 hown hKX.1 hP 0 rfl rfl 11 (by decide) (hts (.fieldLink RX11 70 "TrainFerry" "ferryAt" "I") (by decide +kernel)) (fun _ h9 => h9) rfl dX11_on_22 ?_
      refine lv_iload_n hx hb dX11_on_25 rfl (lv_at hl 1 rfl) ?_
      refine cl_q (wr := [(xc4 cy xh xq), (xc6 cy xh xq), (xc8 cy xh xq)]) (va_runV (As := [.int 0, .int 2]) (rest := []) ⟨hx, hb, hml, hown, hts⟩ (c_yardRow_02 l D cy xh xq _) (cwV 2 hts gX11_on_X11_yardRow rfl rfl rfl (by decide +kernel) ⟨(Nat.le_of_ble_eq_true rfl), (Nat.le_of_ble_eq_true rfl)⟩) (pre_V hKX hP hD (ci := 11) (q0 := 0) rfl rfl [0, 1, 2, 3] rfl (by decide) rfl) rfl rfl hl.1 rfl (lv_room (Nat.le_of_ble_eq_true rfl)) dX11_on_26 ⟨(Nat.le_of_ble_eq_true rfl), (Nat.le_of_ble_eq_true rfl)⟩) hP hD hS hA [0, 1, 2, 3] [4, 5, 6] rfl rfl (by decide) (by decide) (fun u12 H locs _ hP hD hS => ?_)
      have hP : va_P D vwCl [(xc4 cy xh xq), (xc6 cy xh xq), (xc8 cy xh xq), (xc0 cy xh xq), (xc1 cy xh xq), (xc2 cy xh xq), (xc3 cy xh xq)] H := hP
      have hD : va_D A [(xc4 cy xh xq), (xc6 cy xh xq), (xc8 cy xh xq), (xc0 cy xh xq), (xc1 cy xh xq), (xc2 cy xh xq), (xc3 cy xh xq)] := hD
      refine lv_csv (.ref (xq 7)) rfl ?_
      refine lv_astore_n (lv' := [(3, .ref (xq 7)), (0, .ref xh), (1, .int 2), (2, .int xd)]) hx hb dX11_on_29 rfl hl (by decide) rfl (fun ls hl => ?_)
      refine lv_aload_n hx hb dX11_on_30 rfl (lv_at hl 0 rfl) ?_
      refine lv_ifnonnull (tgt := 38) hx hb dX11_on_31 (by decide) ?_
      refine lv_aload_n hx hb dX11_on_38 rfl (lv_at hl 0 rfl) ?_
      refine lv_iconst (v := 0) hx hb dX11_on_39 (by decide) ?_
      refine cl_q (wr := [(xc4 cy xh xq), (xc6 cy xh xq), (xc0 cy xh xq), (xc1 cy xh xq), (xc2 cy xh xq), (xc3 cy xh xq)]) (va_runV (As := [.int 0]) (rest := []) ⟨hx, hb, hml, hown, hts⟩ (c_wagonAt l D cy (xq 7) (xq 8) 0 _) (cwV 1 hts gX11_on_X5_wagonAt rfl rfl rfl (by decide +kernel) ⟨(Nat.le_of_ble_eq_true rfl), (Nat.le_of_ble_eq_true rfl)⟩) (pre_V hKX hP hD (ci := 5) (q0 := 2) rfl rfl [2] rfl (by decide) rfl) rfl rfl hl.1 rfl (lv_room (Nat.le_of_ble_eq_true rfl)) dX11_on_40 ⟨(Nat.le_of_ble_eq_true rfl), (Nat.le_of_ble_eq_true rfl)⟩) hP hD hS hA [2] [0, 1, 3, 4, 5, 6] rfl rfl (by decide) (by decide) (fun u13 H locs _ hP hD hS => ?_)
      have hP : va_P D vwCl [(xc4 cy xh xq), (xc6 cy xh xq), (xc0 cy xh xq), (xc1 cy xh xq), (xc2 cy xh xq), (xc3 cy xh xq), ((xq 7), .inr (5, [.ref (xq 8), .int 0, .int 0]))] H := hP
      have hD : va_D A [(xc4 cy xh xq), (xc6 cy xh xq), (xc0 cy xh xq), (xc1 cy xh xq), (xc2 cy xh xq), (xc3 cy xh xq), ((xq 7), .inr (5, [.ref (xq 8), .int 0, .int 0]))] := hD
      refine lv_csv (.null) rfl ?_
      refine lv_astoreN (lv' := [(4, .null), (3, .ref (xq 7)), (0, .ref xh), (1, .int 2), (2, .int xd)]) hx hb dX11_on_43 hl (by decide) rfl (fun ls hl => ?_)
      refine lv_aloadN hx hb dX11_on_45 (lv_at hl 0 rfl) ?_
      refine lv_ifnonnullN hx hb dX11_on_47 ?_
      refine lv_iconst (v := (-1)) hx hb dX11_on_50 (by decide) ?_
      exact en_i hx hb hr hlocks () rfl trivial (hP.sub [] rfl) (hD.sub [] (by decide) rfl) hS (Nat.le_of_ble_eq_true rfl) (Nat.le_of_ble_eq_true rfl) dX11_on_51
    · refine lv_iconst (v := (-1)) hx hb dX11_on_7 (by decide) ?_
      exact en_i hx hb hr hlocks () rfl trivial (hP.sub [] rfl) (hD.sub [] (by decide) rfl) hS (Nat.le_of_ble_eq_true rfl) (Nat.le_of_ble_eq_true rfl) dX11_on_8
  · refine lv_iload_n hx hb dX11_on_0 rfl (lv_at hl 2 rfl) ?_
    refine cl_i (wr := [(xc0 cy xh xq), (xc1 cy xh xq), (xc2 cy xh xq), (xc3 cy xh xq), (xc4 cy xh xq), (xc6 cy xh xq), (xc8 cy xh xq)]) (va_runS (As := [.int xd]) (rest := []) ⟨hx, hb, hml, hown, hts⟩ (c_isDeckTrack l D cy xd _) (va_cwS 1 hts gX11_on_X11_isDeckTrack rfl rfl rfl (by decide +kernel) ⟨(Nat.le_of_ble_eq_true rfl), (Nat.le_of_ble_eq_true rfl)⟩) (pre_S hKX hP hD [] rfl (by decide) rfl) rfl rfl hl.1 rfl (lv_room (Nat.le_of_ble_eq_true rfl)) dX11_on_1 ⟨(Nat.le_of_ble_eq_true rfl), (Nat.le_of_ble_eq_true rfl)⟩) hP hD hS hA [] [0, 1, 2, 3, 4, 5, 6] rfl rfl (by decide) (by decide) (fun u14 H locs _ hP hD hS => ?_)
    have hP : va_P D vwCl [(xc0 cy xh xq), (xc1 cy xh xq), (xc2 cy xh xq), (xc3 cy xh xq), (xc4 cy xh xq), (xc6 cy xh xq), (xc8 cy xh xq)] H := hP
    have hD : va_D A [(xc0 cy xh xq), (xc1 cy xh xq), (xc2 cy xh xq), (xc3 cy xh xq), (xc4 cy xh xq), (xc6 cy xh xq), (xc8 cy xh xq)] := hD
    refine lv_if_ne (tgt := 9) hx hb dX11_on_4 (by decide) (fun c15 => ?_) (fun c15 => ?_)
    · refine lv_aload_n hx hb dX11_on_9 rfl (lv_at hl 0 rfl) ?_
      refine va_get (D := D) (ci := 11) (v := .int 0) (C := RX11) (T := TX11) (N := 18) hx hb hts iw_X11_on_X11 hown hKX.1 hP 0 rfl rfl 11 (by decide) (hts (.fieldLink RX11 70 "TrainFerry" "ferryAt" "I") (by decide +kernel)) (fun _ h9 => h9) rfl dX11_on_10 ?_
      refine lv_iconst (v := 2) hx hb dX11_on_13 (by decide) ?_
      refine lv_icmp_ne (tgt := 20) hx hb dX11_on_14 (by decide) (fun _ => ?_) (fun c9 => absurd c9 (by decide))
      refine lv_aload_n hx hb dX11_on_20 rfl (lv_at hl 0 rfl) ?_
      refine lv_aload_n hx hb dX11_on_21 rfl (lv_at hl 0 rfl) ?_
      refine va_get (D := D) (ci := 11) (v := .int 0) (C := RX11) (T := TX11) (N := 18) hx hb hts iw_X11_on_X11 hown hKX.1 hP 0 rfl rfl 11 (by decide) (hts (.fieldLink RX11 70 "TrainFerry" "ferryAt" "I") (by decide +kernel)) (fun _ h9 => h9) rfl dX11_on_22 ?_
      refine lv_iload_n hx hb dX11_on_25 rfl (lv_at hl 1 rfl) ?_
      refine cl_q (wr := [(xc0 cy xh xq), (xc1 cy xh xq), (xc2 cy xh xq), (xc3 cy xh xq), (xc4 cy xh xq), (xc6 cy xh xq), (xc8 cy xh xq)]) (va_runV (As := [.int 0, .int xt]) (rest := []) ⟨hx, hb, hml, hown, hts⟩ (c_yardRow_t l D cy xh xq 0 xt o1 _) (cwV 2 hts gX11_on_X11_yardRow rfl rfl rfl (by decide +kernel) ⟨(Nat.le_of_ble_eq_true rfl), (Nat.le_of_ble_eq_true rfl)⟩) (pre_V hKX hP hD (ci := 11) (q0 := 0) rfl rfl [] rfl (by decide) rfl) rfl rfl hl.1 rfl (lv_room (Nat.le_of_ble_eq_true rfl)) dX11_on_26 ⟨(Nat.le_of_ble_eq_true rfl), (Nat.le_of_ble_eq_true rfl)⟩) hP hD hS hA [] [0, 1, 2, 3, 4, 5, 6] rfl rfl (by decide) (by decide) (fun u16 H locs _ hP hD hS => ?_)
      have hP : va_P D vwCl [(xc0 cy xh xq), (xc1 cy xh xq), (xc2 cy xh xq), (xc3 cy xh xq), (xc4 cy xh xq), (xc6 cy xh xq), (xc8 cy xh xq)] H := hP
      have hD : va_D A [(xc0 cy xh xq), (xc1 cy xh xq), (xc2 cy xh xq), (xc3 cy xh xq), (xc4 cy xh xq), (xc6 cy xh xq), (xc8 cy xh xq)] := hD
      refine lv_csv (.null) rfl ?_
      refine lv_astore_nN (lv' := [(3, .null), (0, .ref xh), (1, .int xt), (2, .int xd)]) hx hb dX11_on_29 rfl hl (by decide) rfl (fun ls hl => ?_)
      refine lv_aload_nN hx hb dX11_on_30 rfl (lv_at hl 0 rfl) ?_
      refine lv_ifnonnullN hx hb dX11_on_31 ?_
      refine lv_null hx hb dX11_on_34 ?_
      refine lv_goto (tgt := 43) hx hb dX11_on_35 (by decide) ?_
      refine lv_astoreN (lv' := [(4, .null), (3, .null), (0, .ref xh), (1, .int xt), (2, .int xd)]) hx hb dX11_on_43 hl (by decide) rfl (fun ls hl => ?_)
      refine lv_aloadN hx hb dX11_on_45 (lv_at hl 0 rfl) ?_
      refine lv_ifnonnullN hx hb dX11_on_47 ?_
      refine lv_iconst (v := (-1)) hx hb dX11_on_50 (by decide) ?_
      exact en_i hx hb hr hlocks () rfl trivial (hP.sub [] rfl) (hD.sub [] (by decide) rfl) hS (Nat.le_of_ble_eq_true rfl) (Nat.le_of_ble_eq_true rfl) dX11_on_51
    · refine lv_iconst (v := (-1)) hx hb dX11_on_7 (by decide) ?_
      exact en_i hx hb hr hlocks () rfl trivial (hP.sub [] rfl) (hD.sub [] (by decide) rfl) hS (Nat.le_of_ble_eq_true rfl) (Nat.le_of_ble_eq_true rfl) dX11_on_8
