/-! My own base: numbers, the kinds of arrays, the standing facts KX, contracts' forms, rows for calls and ends -/
def wi (x a b : Int32) : Int32 := if x < a then 0 else if b < x then 0 else 1
theorem wi_nar (x a b : Int32) : narrow .boolean (.int (wi x a b)) = .int (wi x a b) := by
  unfold wi
  split
  · rfl
  · split <;> rfl
theorem wi_01 (x a b : Int32) : wi x a b = 0 ∨ wi x a b = 1 := by
  unfold wi
  split
  · exact Or.inl rfl
  · split
    · exact Or.inl rfl
    · exact Or.inr rfl
abbrev lk (l : List Nat) : Nat → Nat := fun k => l.getD k 0
theorem vin {i : Int32} {n : Nat} (h : (i < 0 ∨ n ≤ i.toNatClampNeg) = False) : vp_in i n := fun q => by rw [h] at q; exact q
theorem vind {i : Int32} {n : Nat} (h : decide (i < 0 ∨ n ≤ i.toNatClampNeg) = false) : vp_in i n := of_decide_eq_false h
abbrev TY (cy : Nat → ClassId) : List (ClassId × FieldType) := [(cy 0, .int), (cy 1, .long), (cy 2, .boolean), (cy 3, .byte), (cy 4, .object RX5), (cy 5, .object RX7), (cy 6, .object RX10), (cy 7, .object RX0)]
/-- the links between nest mates -/
def nestW : List Cond := [.methodLinkNest RX11 9 yX7_init RX11, .methodLinkNest RX11 18 yX2_init RX11, .methodLinkNest RX2 22 yX8_init RX11, .methodLinkNest RX11 31 yX1_init RX11, .methodLinkNest RX1 11 yX9_init RX11, .methodLinkNest RX1 36 yX0_init RX11, .methodLinkNest RX5 28 yX11_isWithin RX11, .methodLinkNest RX2 34 yX11_isDeckTrack RX11, .methodLinkNest RX11 236 yX4_init RX11, .methodLinkNest RX4 24 yX8_init RX11, .methodLinkNest RX11 329 yX3_init RX11]
def isNest (w : Cond) : Prop := ∃ a i x h, w = .methodLinkNest a i x h
theorem nestW_is : ∀ w ∈ nestW, isNest w := by
  intro w hw
  simp only [nestW, List.mem_cons, List.not_mem_nil, or_false] at hw
  rcases hw with rfl | rfl | rfl | rfl | rfl | rfl | rfl | rfl | rfl | rfl | rfl <;> exact ⟨_, _, _, _, rfl⟩
def KX (D : va_G) (cy : Nat → ClassId) (U : State) : Prop := va_K D vwCl (TY cy) U ∧ (∀ w ∈ nestW, va_Nw w U) ∧ (va_AO RX5 U ∧ va_AO RX7 U ∧ va_AO RX10 U ∧ va_AO RX0 U)
theorem KX.warm {D : va_G} {cy : Nat → ClassId} {s U : State} (h : KX D cy s) (hW : s.WarmedH U.vm) : KX D cy U := by
  refine ⟨va_K.moved hW.alike h.1, fun w hw => ?_, h.2.2.1.moved hW.alike, h.2.2.2.1.moved hW.alike, h.2.2.2.2.1.moved hW.alike, h.2.2.2.2.2.moved hW.alike⟩
  obtain ⟨a, i, x, hh, rfl⟩ := nestW_is w hw
  exact va_Nw.warmM hW (h.2.1 _ hw)
theorem KX.calling {D : va_G} {cy : Nat → ClassId} {U : State} {g : JFrame} {mk : MethodId} {a : Array Value} (h : KX D cy U) : KX D cy (U.calling g mk a) := by
  refine ⟨va_K.moved (u := U) (U := U.calling g mk a) (Vm.Alike.refl U.vm) h.1, fun w hw => ?_, h.2.2.1.moved (Vm.Alike.refl U.vm), h.2.2.2.1.moved (Vm.Alike.refl U.vm), h.2.2.2.2.1.moved (Vm.Alike.refl U.vm), h.2.2.2.2.2.moved (Vm.Alike.refl U.vm)⟩
  obtain ⟨b, i, x, hh, rfl⟩ := nestW_is w hw
  exact va_Nw.same rfl rfl (h.2.1 _ hw)
/-- one class of arrays for a type -/
theorem va_one {D : va_G} {cl : List vw_C} {tys : List (ClassId × FieldType)} {U : State} (h : va_K D cl tys U) {i j : Nat} {a b : ClassId} {ty : FieldType} (hi : tys[i]? = some (a, ty)) (hj : tys[j]? = some (b, ty)) : a = b := by
  have h1 := (h.2 i _ hi).2
  have h2 := (h.2 j _ hj).2
  cases ty <;> simp only [va_RA] at h1 h2
  all_goals first
    | exact Option.some.inj (h1.symm.trans h2)
    | (obtain ⟨_, _, _, _, _, h1⟩ := h1; obtain ⟨_, _, _, _, _, h2⟩ := h2; exact Option.some.inj (h1.symm.trans h2))
def wPre (D : va_G) (cy : Nat → ClassId) (av : List Value) (sz : Nat) (wc : va_W) : Array Value → State → Prop := va_Pc av (fun U => U.heap.size = sz ∧ va_P D vwCl wc U.heap ∧ KX D cy U ∧ va_D (fun _ => True) wc)
theorem wPre.blind {D : va_G} {cy : Nat → ClassId} {av : List Value} {sz : Nat} {wc : va_W} : FrameBlind (wPre D cy av sz wc) := fun _ _ _ _ q => ⟨q.1, q.2.1, q.2.2.1, q.2.2.2.1.calling, q.2.2.2.2⟩
def wB {S : Type} (D : va_G) (A : Nat → Prop) (w' : S → va_W) (u : S) (t : State) : Prop := va_P D vwCl (w' u) t.heap ∧ va_D A (w' u)
def wQi {S : Type} (D : va_G) (v : Int32) (ps : S → Prop) (w' : S → va_W) (A : Nat → Prop) : Array Value → State → Outcome → State → Prop := va_Qi (fun r (u : S) => r = v ∧ ps u) (wB D A w') A
def wQl {S : Type} (D : va_G) (v : Int64) (ps : S → Prop) (w' : S → va_W) (A : Nat → Prop) : Array Value → State → Outcome → State → Prop := va_Ql (fun r (u : S) => r = v ∧ ps u) (wB D A w') A
def wQv {S : Type} (D : va_G) (ps : S → Prop) (w' : S → va_W) (A : Nat → Prop) : Array Value → State → Outcome → State → Prop := va_Qv (fun (u : S) => ps u) (wB D A w') A
def wQq {S : Type} (D : va_G) (v : S → Option Nat) (ps : S → Prop) (w' : S → va_W) (A : Nat → Prop) : Array Value → State → Outcome → State → Prop := va_Qq (fun r (u : S) => r = v u ∧ ps u) (wB D A w') A
section BASE
variable {p : Program} {l : Launch} {e : Env} {R : Room} {s : State} {m : MethodId} {args : Array Value} {below : List Frame} {meth : Method} {c : Code} {H : Heap} {locs : List Loc} {cells slots : Nat} {Q : State → Prop}
variable {D : va_G} {cy : Nat → ClassId} {A : Nat → Prop} {pc : Nat} {ls : Array Slot} {st0 rest : List Value} {cc : ByteArray} {mc ms : Nat}
theorem lv_cst {x : Int32} (y : Int32) (h : x = y) (k : W p l e R s m args below meth c H locs cells slots Q (F0 m pc ls (.int y :: rest))) : W p l e R s m args below meth c H locs cells slots Q (F0 m pc ls (.int x :: rest)) := by rw [h]; exact k
theorem lv_cstl {x : Int64} (y : Int64) (h : x = y) (k : W p l e R s m args below meth c H locs cells slots Q (F0 m pc ls (.long y :: rest))) : W p l e R s m args below meth c H locs cells slots Q (F0 m pc ls (.long x :: rest)) := by rw [h]; exact k
theorem lv_csv {x : Value} (y : Value) (h : x = y) (k : W p l e R s m args below meth c H locs cells slots Q (F0 m pc ls (y :: rest))) : W p l e R s m args below meth c H locs cells slots Q (F0 m pc ls (x :: rest)) := by rw [h]; exact k
/-- newarray, of a kind that TY has -/
theorem nw_a (hx : p.tables.exec = Jvm.exec) (hb : c.code = cc) {atype : ArrayType} (harr : (Cond.arrayClass (newarray.typeOf atype)).before args s = true) {ty : FieldType} (hty : newarray.typeOf atype = ty) (hKX : KX D cy s) {ws : va_W} (hP : va_P D vwCl ws H) (hD : va_D A ws) (hS : va_S A s.heap H locs) (hA : ∀ q, s.heap.size ≤ q → A q)
    (t0 : Nat) (ht0 : (TY cy)[t0]? = some (cy t0, ty)) {n : Int32} {N' : Nat} {a0 : vp_A} (ha : ∀ cA : ClassId, vp_cell cA a0 = arrV cA N' (fun _ => defaultValue ty)) (hn : ¬ n < 0) (hN : n.toNatClampNeg = N') (hbytes : N' * componentBytes ty ≤ 536870912) (hcells : cells + 1 ≤ R.cells) (hslots : slots + N' ≤ R.slots) (hdg : decode cc pc = .ok (.newarray atype, 2))
    (kk : ∀ (q : Nat) (H1 : Heap), va_P D vwCl (ws ++ [(q, .inl (cy t0, a0))]) H1 → va_D A (ws ++ [(q, .inl (cy t0, a0))]) → va_S A s.heap H1 locs →
      W p l e R s m args below meth c H1 locs (cells + 1) (slots + N') Q (F0 m (pc + 2) ls (.ref q :: rest))) : W p l e R s m args below meth c H locs cells slots Q (F0 m pc ls (.int n :: rest)) := by
  refine va_newa hx hb harr hty hKX.1 hP hD hS hA ha hn hN hbytes hcells hslots hdg fun q cA H1 hK1 hP1 hD1 hS1 => ?_
  have hlt : t0 < (TY cy).length := (List.getElem?_eq_some_iff.mp ht0).1
  obtain rfl : cA = cy t0 := va_one hK1 (i := 8) (j := t0) (ty := ty) rfl (by rw [List.getElem?_append_left hlt]; exact ht0)
  exact kk q H1 hP1 hD1 hS1
/-- anewarray -/
theorem nw_q (hx : p.tables.exec = Jvm.exec) (hb : c.code = cc) {own C : String} {index : Nat} (hown : s.vm.findClass own = some m.cls) (hclink : (Cond.classLink own index C).before args s = true) (hover : va_AO C s) (hKX : KX D cy s) {ws : va_W} (hP : va_P D vwCl ws H) (hD : va_D A ws) (hS : va_S A s.heap H locs) (hA : ∀ q, s.heap.size ≤ q → A q)
    (t0 : Nat) (ht0 : (TY cy)[t0]? = some (cy t0, .object C)) {n : Int32} {N' : Nat} (hn : ¬ n < 0) (hN : n.toNatClampNeg = N') (hbytes : N' * 4 ≤ 536870912) (hcells : cells + 1 ≤ R.cells) (hslots : slots + N' ≤ R.slots) (hdg : decode cc pc = .ok (.anewarray index, 3))
    (kk : ∀ (q : Nat) (H1 : Heap), va_P D vwCl (ws ++ [(q, .inl (cy t0, N', .inr (.inr (.inr (.inr (fun _ => none))))))]) H1 → va_D A (ws ++ [(q, .inl (cy t0, N', .inr (.inr (.inr (.inr (fun _ => none))))))]) → va_S A s.heap H1 locs →
      W p l e R s m args below meth c H1 locs (cells + 1) (slots + N') Q (F0 m (pc + 3) ls (.ref q :: rest))) : W p l e R s m args below meth c H locs cells slots Q (F0 m pc ls (.int n :: rest)) := by
  refine va_newq hx hb hown hclink hover hKX.1 hP hD hS hA hn hN hbytes hcells hslots hdg fun q cA H1 hK1 hP1 hD1 hS1 => ?_
  have hlt : t0 < (TY cy).length := (List.getElem?_eq_some_iff.mp ht0).1
  obtain rfl : cA = cy t0 := va_one hK1 (i := 8) (j := t0) (ty := .object C) rfl (by rw [List.getElem?_append_left hlt]; exact ht0)
  exact kk q H1 hP1 hD1 hS1
theorem pre_S {ws wc : va_W} {av : List Value} (hKX : KX D cy s) (hP : va_P D vwCl ws H) (hD : va_D A ws) (isC : List Nat) (h1 : isC.filterMap (fun i => ws[i]?) = wc) (hn : va_nd isC = true) (h2 : isC.map (fun i => ws[i]?) = wc.map some) : PreS s H (wPre D cy av H.size wc) av :=
  ⟨wPre.blind, fun U hU hW => ⟨rfl, by rw [hU], by rw [hU]; exact hP.sub isC h1, hKX.warm hW, (hD.sub isC hn h2).weaken (fun _ _ _ _ => trivial)⟩⟩
theorem pre_V {ws wc : va_W} {b ci q0 : Nat} {r : vw_C} {fs : List Value} {av : List Value} (hKX : KX D cy s) (hP : va_P D vwCl ws H) (hD : va_D A ws) (hc : vwCl[ci]? = some r) (he : ws[q0]? = some (b, .inr (ci, fs))) (isC : List Nat) (h1 : isC.filterMap (fun i => ws[i]?) = wc) (hn : va_nd isC = true) (h2 : isC.map (fun i => ws[i]?) = wc.map some) : PreV s H r.1 b (wPre D cy (.ref b :: av) H.size wc) av :=
  ⟨wPre.blind, va_recv hKX.1 hP hc he, fun U hU hW => ⟨rfl, by rw [hU], by rw [hU]; exact hP.sub isC h1, hKX.warm hW, (hD.sub isC hn h2).weaken (fun _ _ _ _ => trivial)⟩⟩
section CALLS
variable {S : Type} {ps : S → Prop} {w' : S → va_W} {wc ws wr : va_W} {a : Array Value}
theorem cl_i {v : Int32} (hr : va_Run p l e R s m args below meth c H locs cells slots mc ms (F0 m pc ls st0) rest (wQi D v ps w' (va_A wc H.size) a) (va_A wc H.size))
    (hP : va_P D vwCl ws H) (hD : va_D A ws) (hS : va_S A s.heap H locs) (hA : ∀ q, s.heap.size ≤ q → A q) (isC isR : List Nat) (hC : isC.map (fun i => ws[i]?) = wc.map some) (hR : isR.map (fun i => ws[i]?) = wr.map some) (hn : va_nd isR = true) (hdis : ∀ i ∈ isR, i ∉ isC)
    (kk : ∀ (u : S) (H1 : Heap) (locs1 : List Loc), ps u → va_P D vwCl (wr ++ w' u) H1 → va_D A (wr ++ w' u) → va_S A s.heap H1 locs1 → W p l e R s m args below meth c H1 locs1 (cells + mc) (slots + ms) Q (F0 m (pc + 3) ls (.int v :: rest))) : W p l e R s m args below meth c H locs cells slots Q (F0 m pc ls st0) := by
  have hF := va_free (wc := wc) hD hS hA isC hC
  refine va_calli hr hS (fun q _ h => hF q h) hF (fun r u t H1 locs1 ht hvm hw hB hz hk hS1 => ?_)
  obtain ⟨rfl, hps⟩ := hw
  obtain ⟨hP1, hD1⟩ := hB
  rw [ht] at hP1
  obtain ⟨hP2, hD2⟩ := va_join hP hD isC isR hC hR hn hdis hk hF hP1 hD1
  exact kk u H1 locs1 hps hP2 hD2 hS1
theorem cl_l {v : Int64} (hr : va_Run p l e R s m args below meth c H locs cells slots mc ms (F0 m pc ls st0) rest (wQl D v ps w' (va_A wc H.size) a) (va_A wc H.size))
    (hP : va_P D vwCl ws H) (hD : va_D A ws) (hS : va_S A s.heap H locs) (hA : ∀ q, s.heap.size ≤ q → A q) (isC isR : List Nat) (hC : isC.map (fun i => ws[i]?) = wc.map some) (hR : isR.map (fun i => ws[i]?) = wr.map some) (hn : va_nd isR = true) (hdis : ∀ i ∈ isR, i ∉ isC)
    (kk : ∀ (u : S) (H1 : Heap) (locs1 : List Loc), ps u → va_P D vwCl (wr ++ w' u) H1 → va_D A (wr ++ w' u) → va_S A s.heap H1 locs1 → W p l e R s m args below meth c H1 locs1 (cells + mc) (slots + ms) Q (F0 m (pc + 3) ls (.long v :: rest))) : W p l e R s m args below meth c H locs cells slots Q (F0 m pc ls st0) := by
  have hF := va_free (wc := wc) hD hS hA isC hC
  refine va_calll hr hS (fun q _ h => hF q h) hF (fun r u t H1 locs1 ht hvm hw hB hz hk hS1 => ?_)
  obtain ⟨rfl, hps⟩ := hw
  obtain ⟨hP1, hD1⟩ := hB
  rw [ht] at hP1
  obtain ⟨hP2, hD2⟩ := va_join hP hD isC isR hC hR hn hdis hk hF hP1 hD1
  exact kk u H1 locs1 hps hP2 hD2 hS1
theorem cl_v (hr : va_Run p l e R s m args below meth c H locs cells slots mc ms (F0 m pc ls st0) rest (wQv D ps w' (va_A wc H.size) a) (va_A wc H.size))
    (hP : va_P D vwCl ws H) (hD : va_D A ws) (hS : va_S A s.heap H locs) (hA : ∀ q, s.heap.size ≤ q → A q) (isC isR : List Nat) (hC : isC.map (fun i => ws[i]?) = wc.map some) (hR : isR.map (fun i => ws[i]?) = wr.map some) (hn : va_nd isR = true) (hdis : ∀ i ∈ isR, i ∉ isC)
    (kk : ∀ (u : S) (H1 : Heap) (locs1 : List Loc), ps u → va_P D vwCl (wr ++ w' u) H1 → va_D A (wr ++ w' u) → va_S A s.heap H1 locs1 → W p l e R s m args below meth c H1 locs1 (cells + mc) (slots + ms) Q (F0 m (pc + 3) ls rest)) : W p l e R s m args below meth c H locs cells slots Q (F0 m pc ls st0) := by
  have hF := va_free (wc := wc) hD hS hA isC hC
  refine va_callv hr hS (fun q _ h => hF q h) hF (fun u t H1 locs1 ht hvm hw hB hz hk hS1 => ?_)
  obtain ⟨hP1, hD1⟩ := hB
  rw [ht] at hP1
  obtain ⟨hP2, hD2⟩ := va_join hP hD isC isR hC hR hn hdis hk hF hP1 hD1
  exact kk u H1 locs1 hw hP2 hD2 hS1
theorem cl_q {v : S → Option Nat} (hr : va_Run p l e R s m args below meth c H locs cells slots mc ms (F0 m pc ls st0) rest (wQq D v ps w' (va_A wc H.size) a) (va_A wc H.size))
    (hP : va_P D vwCl ws H) (hD : va_D A ws) (hS : va_S A s.heap H locs) (hA : ∀ q, s.heap.size ≤ q → A q) (isC isR : List Nat) (hC : isC.map (fun i => ws[i]?) = wc.map some) (hR : isR.map (fun i => ws[i]?) = wr.map some) (hn : va_nd isR = true) (hdis : ∀ i ∈ isR, i ∉ isC)
    (kk : ∀ (u : S) (H1 : Heap) (locs1 : List Loc), ps u → va_P D vwCl (wr ++ w' u) H1 → va_D A (wr ++ w' u) → va_S A s.heap H1 locs1 → W p l e R s m args below meth c H1 locs1 (cells + mc) (slots + ms) Q (F0 m (pc + 3) ls (va_rf (v u) :: rest))) : W p l e R s m args below meth c H locs cells slots Q (F0 m pc ls st0) := by
  have hF := va_free (wc := wc) hD hS hA isC hC
  refine va_callq hr hS (fun q _ h => hF q h) hF (fun r u t H1 locs1 ht hvm hw hB hz hk hS1 => ?_)
  obtain ⟨rfl, hps⟩ := hw
  obtain ⟨hP1, hD1⟩ := hB
  rw [ht] at hP1
  obtain ⟨hP2, hD2⟩ := va_join hP hD isC isR hC hR hn hdis hk hF hP1 hD1
  exact kk u H1 locs1 hps hP2 hD2 hS1
end CALLS
section ENDS
variable {S : Type} {ps : S → Prop} {w' : S → va_W}
theorem en_i {v v' : Int32} (hx : p.tables.exec = Jvm.exec) (hb : c.code = cc) (hr : meth.sig.returnType = some .int) (hlocks : meth.locks = false) (u : S) (hv : v' = v) (hps : ps u) (hP : va_P D vwCl (w' u) H) (hD : va_D A (w' u)) (hS : va_S A s.heap H locs) (hc : cells ≤ mc) (hs : slots ≤ ms) (hdg : decode cc pc = .ok (.ireturn, 1)) :
    W p l e R s m args below meth c H locs cells slots (MQ below (wQi D v ps w' A) args s mc ms A) (F0 m pc ls [.int v']) := by
  refine W.widen (k := mc) (n := ms) hc hs ?_
  exact W.iret hx hb hr (fun t ht hW => ⟨⟨v', u, rfl, ⟨hv, hps⟩, by rw [ht]; exact hP, hD⟩, hS.F ht⟩) hS.2.2 hdg
theorem en_z {v v' : Int32} {ty : FieldType} (hx : p.tables.exec = Jvm.exec) (hb : c.code = cc) (hr : meth.sig.returnType = some ty) (hlocks : meth.locks = false) (hn : narrow ty (.int v') = .int v') (u : S) (hv : v' = v) (hps : ps u) (hP : va_P D vwCl (w' u) H) (hD : va_D A (w' u)) (hS : va_S A s.heap H locs) (hc : cells ≤ mc) (hs : slots ≤ ms) (hdg : decode cc pc = .ok (.ireturn, 1)) :
    W p l e R s m args below meth c H locs cells slots (MQ below (wQi D v ps w' A) args s mc ms A) (F0 m pc ls [.int v']) := by
  refine W.widen (k := mc) (n := ms) hc hs ?_
  exact W.zret hx hb hr hn (fun t ht hW => ⟨⟨v', u, rfl, ⟨hv, hps⟩, by rw [ht]; exact hP, hD⟩, hS.F ht⟩) hS.2.2 hdg
theorem en_l {v v' : Int64} (hx : p.tables.exec = Jvm.exec) (hb : c.code = cc) (hr : meth.sig.returnType = some .long) (hlocks : meth.locks = false) (u : S) (hv : v' = v) (hps : ps u) (hP : va_P D vwCl (w' u) H) (hD : va_D A (w' u)) (hS : va_S A s.heap H locs) (hc : cells ≤ mc) (hs : slots ≤ ms) (hdg : decode cc pc = .ok (.lreturn, 1)) :
    W p l e R s m args below meth c H locs cells slots (MQ below (wQl D v ps w' A) args s mc ms A) (F0 m pc ls [.long v']) := by
  refine W.widen (k := mc) (n := ms) hc hs ?_
  exact W.lret hx hb hr (fun t ht hW => ⟨⟨v', u, rfl, ⟨hv, hps⟩, by rw [ht]; exact hP, hD⟩, hS.F ht⟩) hS.2.2 hdg
theorem en_v (hx : p.tables.exec = Jvm.exec) (hb : c.code = cc) (hr : meth.sig.returnType = none) (hlocks : meth.locks = false) (u : S) (hps : ps u) (hP : va_P D vwCl (w' u) H) (hD : va_D A (w' u)) (hS : va_S A s.heap H locs) (hc : cells ≤ mc) (hs : slots ≤ ms) (hdg : decode cc pc = .ok (.return_, 1)) :
    W p l e R s m args below meth c H locs cells slots (MQ below (wQv D ps w' A) args s mc ms A) (F0 m pc ls []) := by
  refine W.widen (k := mc) (n := ms) hc hs ?_
  exact W.vret hx hb hr (fun t ht hW => ⟨⟨u, rfl, hps, by rw [ht]; exact hP, hD⟩, hS.F ht⟩) hS.2.2 hdg
theorem en_q {v : S → Option Nat} {v' : Option Nat} {x : Value} {rt : FieldType} (hx : p.tables.exec = Jvm.exec) (hb : c.code = cc) (hr : meth.sig.returnType = some rt) (hrt : (∃ n, rt = .object n) ∨ ∃ t, rt = .array t) (hlocks : meth.locks = false) (hxv : x = va_rf v') (u : S) (hv : v' = v u) (hps : ps u) (hP : va_P D vwCl (w' u) H) (hD : va_D A (w' u)) (hS : va_S A s.heap H locs) (hc : cells ≤ mc) (hs : slots ≤ ms) (hdg : decode cc pc = .ok (.areturn, 1)) :
    W p l e R s m args below meth c H locs cells slots (MQ below (wQq D v ps w' A) args s mc ms A) (F0 m pc ls [x]) := by
  refine W.widen (k := mc) (n := ms) hc hs ?_
  subst hxv
  exact W.aret hx hb hr hrt (va_rf_or v') (fun t ht hW => ⟨⟨v', u, rfl, ⟨hv, hps⟩, by rw [ht]; exact hP, hD⟩, hS.F ht⟩) hS.2.2 hdg
end ENDS
end BASE
/-- a contract's beginning -/
theorem met_go {l : Launch} {D : va_G} {cy : Nat → ClassId} {y : MethodName} {ws ws' : List Cond} {rm : Room} {cc : ByteArray} {maxL : Nat} {ret : Option FieldType} {av : List Value} {wc : va_W} {sz mc ms : Nat} {Qc : (Nat → Prop) → Array Value → State → Outcome → State → Prop}
    (hy : plainName y.cls = true) (hw : ws = Cond.code y cc maxL ret :: ws') (hlen : (lg_sl av).length ≤ maxL)
    (body : ∀ (p : Program) (e : Env) (s : State) (m : MethodId) (below : List Frame) (meth : Method) (c : Code) (ls : Array Slot) (A : Nat → Prop), p.tables.exec = Jvm.exec → c.code = cc → meth.sig.returnType = ret → c.maxLocals = maxL → s.vm.findClass y.cls = some m.cls → (∀ w ∈ ws, w.before av.toArray s = true) → meth.locks = false → meth.name = y.name → KX D cy s → va_P D vwCl wc s.heap → va_D A wc → (∀ q, s.heap.size ≤ q → A q) → va_S A s.heap s.heap [] → lv_has ls maxL (lv_args 0 av) →
      W p l e (headSpec ws rm).room s m av.toArray below meth c s.heap [] 0 0 (MQ below (Qc A) av.toArray s mc ms A) (F0 m 0 ls [])) : Met l y ws rm (wPre D cy av sz wc) (Qc (va_A wc sz)) mc ms (va_A wc sz) := by
  refine Met.ofW (cc := cc) (maxL := maxL) (ret := ret) hy hw ?_
  intro p e s m args below meth c s₁ B hml hv
  obtain ⟨rfl, hsz, hP, hK, hD0⟩ := hv
  subst hsz
  rw [lg_entry_eq]
  exact body p e s m below meth c _ _ B.exec B.bytes B.returns hml (findClass_of_methodNamed B.named) (atoms_spec (ws := ws) B.pre) B.notSynchronized (name_of_methodNamed B.named B.method).1 hK hP (hD0.self (sz := s.heap.size)) (fun q h => Or.inr h) va_S.rf (lv_entry av hlen)
