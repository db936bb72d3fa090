/-! what the law's start gives: the classes, the kinds of arrays, the links, the table of strides, what a throw needs -/
theorem nestW_in : ∀ w ∈ nestW, w ∈ lw_tbl := by decide +kernel
set_option maxHeartbeats 4000000 in
set_option maxRecDepth 100000 in
theorem law_KX {s : State} {b : Nat} (htb : ∀ w ∈ lw_tbl, w.before #[Value.ref b] s = true) : ∃ (D : va_G) (cy : Nat → ClassId), KX D cy s := by
  obtain ⟨c0, i0, k0⟩ := u_known (C := RX0) (T := TX0) (N := 3) (n := 3) htb inX0 (htb (.instantiable RX0 3) (List.mem_of_getElem? (i := 500) (by decide +kernel)))
  obtain ⟨c1, i1, k1⟩ := u_known (C := RX1) (T := TX1) (N := 6) (n := 6) htb inX1 (htb (.instantiable RX1 6) (List.mem_of_getElem? (i := 236) (by decide +kernel)))
  obtain ⟨c2, i2, k2⟩ := u_known (C := RX2) (T := TX2) (N := 2) (n := 2) htb inX2 (htb (.instantiable RX2 2) (List.mem_of_getElem? (i := 171) (by decide +kernel)))
  obtain ⟨c3, i3, k3⟩ := u_known (C := RX3) (T := TX3) (N := 7) (n := 7) htb inX3 (htb (.instantiable RX3 7) (List.mem_of_getElem? (i := 847) (by decide +kernel)))
  obtain ⟨c4, i4, k4⟩ := u_known (C := RX4) (T := TX4) (N := 10) (n := 10) htb inX4 (htb (.instantiable RX4 10) (List.mem_of_getElem? (i := 731) (by decide +kernel)))
  obtain ⟨c5, i5, k5⟩ := u_known (C := RX5) (T := TX5) (N := 3) (n := 3) htb inX5 (htb (.instantiable RX5 3) (List.mem_of_getElem? (i := 112) (by decide +kernel)))
  obtain ⟨c6, i6, k6⟩ := u_known (C := RX6) (T := TX6) (N := 4) (n := 4) htb inX6 (htb (.instantiable RX6 4) (List.mem_of_getElem? (i := 136) (by decide +kernel)))
  obtain ⟨c7, i7, k7⟩ := u_known (C := RX7) (T := TX7) (N := 3) (n := 3) htb inX7 (htb (.instantiable RX7 3) (List.mem_of_getElem? (i := 105) (by decide +kernel)))
  obtain ⟨c8, i8, k8⟩ := u_known (C := RX8) (T := TX8) (N := 10) (n := 10) htb inX8 (htb (.instantiable RX8 10) (List.mem_of_getElem? (i := 179) (by decide +kernel)))
  obtain ⟨c9, i9, k9⟩ := u_known (C := RX9) (T := TX9) (N := 2) (n := 2) htb inX9 (htb (.instantiable RX9 2) (List.mem_of_getElem? (i := 242) (by decide +kernel)))
  obtain ⟨c10, i10, k10⟩ := u_known (C := RX10) (T := TX10) (N := 12) (n := 12) htb inX10 (htb (.instantiable RX10 12) (List.mem_of_getElem? (i := 360) (by decide +kernel)))
  obtain ⟨c11, i11, k11⟩ := u_known (C := RX11) (T := TX11) (N := 18) (n := 18) htb inX11 (htb (.instantiable RX11 18) (List.mem_of_getElem? (i := 96) (by decide +kernel)))
  obtain ⟨c12, i12, k12⟩ := u_known (C := RX12) (T := TX12) (N := 55) (n := 55) htb inX12 (htb (.instantiable RX12 55) (List.mem_of_getElem? (i := 1035) (by decide +kernel)))
  obtain ⟨a0, ka0, cm0, f01, f02, f03⟩ := Cond.arrayClass_spec (htb (.arrayClass .int) (List.mem_of_getElem? (i := 156) (by decide +kernel)))
  obtain ⟨a1, ka1, cm1, f11, f12, f13⟩ := Cond.arrayClass_spec (htb (.arrayClass .long) (List.mem_of_getElem? (i := 1207) (by decide +kernel)))
  obtain ⟨a2, ka2, cm2, f21, f22, f23⟩ := Cond.arrayClass_spec (htb (.arrayClass .boolean) (List.mem_of_getElem? (i := 1206) (by decide +kernel)))
  obtain ⟨a3, ka3, cm3, f31, f32, f33⟩ := Cond.arrayClass_spec (htb (.arrayClass .byte) (List.mem_of_getElem? (i := 634) (by decide +kernel)))
  have v4 : va_AO RX5 s := va_AO.of (htb (.arrayOver (.object RX5)) (List.mem_of_getElem? (i := 111) (by decide +kernel)))
  obtain ⟨cm4, a4, ka4, g41, g42, g43, g44, g45⟩ := Cond.arrayOver_spec (va_AO.use (A := #[]) v4)
  have v5 : va_AO RX7 s := va_AO.of (htb (.arrayOver (.object RX7)) (List.mem_of_getElem? (i := 104) (by decide +kernel)))
  obtain ⟨cm5, a5, ka5, g51, g52, g53, g54, g55⟩ := Cond.arrayOver_spec (va_AO.use (A := #[]) v5)
  have v6 : va_AO RX10 s := va_AO.of (htb (.arrayOver (.object RX10)) (List.mem_of_getElem? (i := 121) (by decide +kernel)))
  obtain ⟨cm6, a6, ka6, g61, g62, g63, g64, g65⟩ := Cond.arrayOver_spec (va_AO.use (A := #[]) v6)
  have v7 : va_AO RX0 s := va_AO.of (htb (.arrayOver (.object RX0)) (List.mem_of_getElem? (i := 280) (by decide +kernel)))
  obtain ⟨cm7, a7, ka7, g71, g72, g73, g74, g75⟩ := Cond.arrayOver_spec (va_AO.use (A := #[]) v7)
  refine ⟨(fun k => [c0, c1, c2, c3, c4, c5, c6, c7, c8, c9, c10, c11, c12].getD k c0, fun k => [i0, i1, i2, i3, i4, i5, i6, i7, i8, i9, i10, i11, i12].getD k i0), fun k => [a0, a1, a2, a3, a4, a5, a6, a7].getD k a0, ⟨fun k q hq => ?_, fun k q hq => ?_⟩, fun w hw => ?_, v4, v5, v6, v7⟩
  · match k, hq with
    | 0, hq => cases hq; exact k0
    | 1, hq => cases hq; exact k1
    | 2, hq => cases hq; exact k2
    | 3, hq => cases hq; exact k3
    | 4, hq => cases hq; exact k4
    | 5, hq => cases hq; exact k5
    | 6, hq => cases hq; exact k6
    | 7, hq => cases hq; exact k7
    | 8, hq => cases hq; exact k8
    | 9, hq => cases hq; exact k9
    | 10, hq => cases hq; exact k10
    | 11, hq => cases hq; exact k11
    | 12, hq => cases hq; exact k12
    | k + 13, hq => simp [vwCl] at hq
  · match k, hq with
    | 0, hq => cases hq; exact ⟨fun n z => ⟨fun k h => (by cases h), ka0, f02, cm0, f03⟩, f01⟩
    | 1, hq => cases hq; exact ⟨fun n z => ⟨fun k h => (by cases h), ka1, f12, cm1, f13⟩, f11⟩
    | 2, hq => cases hq; exact ⟨fun n z => ⟨fun k h => (by cases h), ka2, f22, cm2, f23⟩, f21⟩
    | 3, hq => cases hq; exact ⟨fun n z => ⟨fun k h => (by cases h), ka3, f32, cm3, f33⟩, f31⟩
    | 4, hq => cases hq; exact ⟨fun n z => ⟨fun k h => (by cases h), ka4, g43, cm4, g44⟩, ka4, cm4, g43, g44, g41, g45⟩
    | 5, hq => cases hq; exact ⟨fun n z => ⟨fun k h => (by cases h), ka5, g53, cm5, g54⟩, ka5, cm5, g53, g54, g51, g55⟩
    | 6, hq => cases hq; exact ⟨fun n z => ⟨fun k h => (by cases h), ka6, g63, cm6, g64⟩, ka6, cm6, g63, g64, g61, g65⟩
    | 7, hq => cases hq; exact ⟨fun n z => ⟨fun k h => (by cases h), ka7, g73, cm7, g74⟩, ka7, cm7, g73, g74, g71, g75⟩
    | k + 8, hq => simp [TY] at hq
  · obtain ⟨a, i, x, h, rfl⟩ := nestW_is w hw
    exact va_Nw.of rfl (htb _ (nestW_in _ hw))
set_option maxHeartbeats 4000000 in
set_option maxRecDepth 100000 in
theorem law_SF {s : State} {b : Nat} {A : Nat → Prop} (htb : ∀ w ∈ lw_tbl, w.before #[Value.ref b] s = true) (hgv : (Jvm.Cond.and given_1 narrow_1).before #[Value.ref b] s = true) (hA : ∀ a : Nat, a < s.heap.size → ¬ A a) : ∃ tS : Nat, SF tS A s s.heap := by
  have hs := flat_of_before _ hgv
  have hl : (Cond.eq (.length (.static "TrainFerry$EmptyingSearch" "STRIDES" "[I")) (.int 4)).before #[Value.ref b] s = true := hs _ (by decide +kernel)
  have h0 : (Cond.eq (.elem (.static "TrainFerry$EmptyingSearch" "STRIDES" "[I") (.int 0)) (.int 1331)).before #[Value.ref b] s = true := hs _ (by decide +kernel)
  have h1 : (Cond.eq (.elem (.static "TrainFerry$EmptyingSearch" "STRIDES" "[I") (.int 1)) (.int 121)).before #[Value.ref b] s = true := hs _ (by decide +kernel)
  have h2 : (Cond.eq (.elem (.static "TrainFerry$EmptyingSearch" "STRIDES" "[I") (.int 2)) (.int 11)).before #[Value.ref b] s = true := hs _ (by decide +kernel)
  have h3 : (Cond.eq (.elem (.static "TrainFerry$EmptyingSearch" "STRIDES" "[I") (.int 3)) (.int 1)).before #[Value.ref b] s = true := hs _ (by decide +kernel)
  obtain ⟨t, ht, hT⟩ := va_Tof (tm := (.static "TrainFerry$EmptyingSearch" "STRIDES" "[I")) (ty := .int) (N := 4) (f := fun j => .int (([1331, 121, 11, 1] : List Int32).getD j 0)) (A := A) (by decide) (hs (.arrayOf (.static "TrainFerry$EmptyingSearch" "STRIDES" "[I") .int) (by decide +kernel)) (va_eqt hl) (fun j hj => by
    rcases (show j = 0 ∨ j = 1 ∨ j = 2 ∨ j = 3 by omega) with rfl | rfl | rfl | rfl
    · exact va_eqt h0
    · exact va_eqt h1
    · exact va_eqt h2
    · exact va_eqt h3) hA
  exact ⟨t, va_Zof (htb (.laysStatic "TrainFerry$EmptyingSearch" "STRIDES" "[I") (List.mem_of_getElem? (i := 896) (by decide +kernel))) (htb (.initialized "TrainFerry$EmptyingSearch") (List.mem_of_getElem? (i := 90) (by decide +kernel))) ht hA, hT⟩
set_option maxHeartbeats 4000000 in
set_option maxRecDepth 100000 in
theorem law_ET {s : State} {b : Nat} {A : Nat → Prop} (htb : ∀ w ∈ lw_tbl, w.before #[Value.ref b] s = true) (hgv : (Jvm.Cond.and given_1 narrow_1).before #[Value.ref b] s = true) (hA : ∀ a : Nat, a < s.heap.size → ¬ A a) (hc : ∃ k, s.vm.findClass "TrainFerry" = some k) : ∃ sa sb : Nat, ET sa sb A s s.heap := by
  have hs := flat_of_before _ hgv
  obtain ⟨kc, hk⟩ := hc
  have w1 : (Cond.stringRef "TrainFerry" 272 "no such shore").before #[Value.ref b] s = true := htb _ (List.mem_of_getElem? (i := 996) (by decide +kernel))
  obtain ⟨-, -, -, s1, -, -, -, -, -, e1⟩ := Cond.stringRef_spec hk w1
  have w2 : (Cond.stringRef "TrainFerry" 280 "nothing of the ferry has that number").before #[Value.ref b] s = true := htb _ (List.mem_of_getElem? (i := 1029) (by decide +kernel))
  obtain ⟨-, -, -, s2, -, -, -, -, -, e2⟩ := Cond.stringRef_spec hk w2
  refine ⟨s1, s2, vx_Zqof (htb (.laysStatic "java/lang/Throwable" "UNASSIGNED_STACK" "[Ljava/lang/StackTraceElement;") (List.mem_of_getElem? (i := 984) (by decide +kernel))) (htb (.initialized "java/lang/Throwable") (List.mem_of_getElem? (i := 91) (by decide +kernel))) (hs (.isRef (.static "java/lang/Throwable" "UNASSIGNED_STACK" "[Ljava/lang/StackTraceElement;")) (by decide +kernel)) hA, vx_Zqof (htb (.laysStatic "java/lang/Throwable" "SUPPRESSED_SENTINEL" "Ljava/util/List;") (List.mem_of_getElem? (i := 986) (by decide +kernel))) (htb (.initialized "java/lang/Throwable") (List.mem_of_getElem? (i := 91) (by decide +kernel))) (hs (.isRef (.static "java/lang/Throwable" "SUPPRESSED_SENTINEL" "Ljava/util/List;")) (by decide +kernel)) hA, vk_R.of w1 e1, vk_R.of w2 e2, fun w hw => va_Nw.of (vxD_ot w hw) (htb w (vxD_in w hw))⟩
