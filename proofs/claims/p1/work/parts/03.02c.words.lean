/-! what each call answers on a new object, and small numbers -/
def fShip (a b c d : Int32) : Int32 := if wi a 40 200 = 0 then 0 else if wi b 0 2000 = 0 then 0 else if wi c 0 50 = 0 then 0 else if wi d 0 1000 = 0 then 0 else 1
def fWagon (s t a b c : Int32) : Int32 := if wi s 0 1 = 0 then -1 else if wi t 0 2 = 0 then -1 else if wi a 6 26 = 0 then -1 else if wi b 10 90 = 0 then -1 else if wi c 0 3 = 0 then -1 else 0
def fTide (s t v : Int32) : Int32 := if wi s 0 1 = 0 then 0 else if wi t 0 5000 = 0 then 0 else if wi v (-50) 50 = 0 then 0 else 1
def fSea (v : Int32) : Int32 := if wi v 0 5 = 0 then 0 else 1
def fRamp (s b : Int32) : Int32 := if wi s 0 1 = 0 then 0 else if b = 0 then 0 else 1
def fTicks (n : Int32) : Int32 := if wi n 1 200 = 0 then -1 else n
def fEnd (n : Int32) : Int32 := if wi n 0 0 = 0 then -1 else n
def fAgree (t : Int32) : Int32 := if wi t 0 5000 = 0 then -1 else 0
def fLoad (a b c : Int32) : Int32 := if wi a 0 0 = 0 then -1 else if wi b 0 0 = 0 then -1 else if wi c 0 0 = 0 then -1 else 0
def fFerry (w : Int32) : Int32 := if w = 4 then -1 else 0
def fCount (w : Int32) : Int64 := if w = 0 then 0 else if w = 1 then 0 else if w = 2 then 0 else if w = 3 then -1 else if w = 4 then 0 else if w = 5 then 0 else if w = 6 then 0 else if w = 7 then 0 else if w = 8 then 0 else -1
theorem i32_lt {x y : Int32} : x < y ↔ x.toInt < y.toInt := Int32.lt_iff_toInt_lt
theorem i32_eq {x y : Int32} (h : x.toInt = y.toInt) : x = y := Int32.toInt_inj.mp h
theorem wi_n0 {x a b : Int32} (h : ¬ wi x a b = 0) : ¬ x < a ∧ ¬ b < x := by
  unfold wi at h
  constructor
  · intro q; rw [if_pos q] at h; exact h rfl
  · intro q
    by_cases q2 : x < a
    · rw [if_pos q2] at h; exact h rfl
    · rw [if_neg q2, if_pos q] at h; exact h rfl
theorem wi_0 {x a b : Int32} (h : wi x a b = 0) : x < a ∨ b < x := by
  by_cases q : x < a
  · exact Or.inl q
  · by_cases q2 : b < x
    · exact Or.inr q2
    · unfold wi at h; rw [if_neg q, if_neg q2] at h; exact absurd h (by decide)
theorem wi_of {x a b : Int32} (h : x < a ∨ b < x) : wi x a b = 0 := by
  unfold wi
  by_cases q : x < a
  · rw [if_pos q]
  · rw [if_neg q, if_pos (h.resolve_left q)]
theorem wi_nat {x : Int32} {lo hi : Nat} (hhi : hi < 2 ^ 31) (hlo : lo ≤ hi) (h : ¬ wi x (nI lo) (nI hi) = 0) : ∃ j : Nat, lo ≤ j ∧ j ≤ hi ∧ x = nI j := by
  obtain ⟨h1, h2⟩ := wi_n0 h
  rw [i32_lt] at h1 h2
  rw [nI_toInt hhi] at h2
  rw [nI_toInt (by omega)] at h1
  refine ⟨x.toInt.toNat, by omega, by omega, i32_eq ?_⟩
  rw [nI_toInt (by omega)]
  omega
theorem sp1 (x : Int32) : x = 0 ∨ wi x 0 0 = 0 := by
  by_cases h : wi x 0 0 = 0
  · exact Or.inr h
  · obtain ⟨j, h1, h2, rfl⟩ := wi_nat (x := x) (lo := 0) (hi := 0) (by decide) (by decide) h
    obtain rfl : j = 0 := by omega
    exact Or.inl rfl
theorem sp2 (x : Int32) : x = 0 ∨ x = 1 ∨ wi x 0 1 = 0 := by
  by_cases h : wi x 0 1 = 0
  · exact Or.inr (Or.inr h)
  · obtain ⟨j, h1, h2, rfl⟩ := wi_nat (x := x) (lo := 0) (hi := 1) (by decide) (by decide) h
    rcases (show j = 0 ∨ j = 1 by omega) with rfl | rfl
    · exact Or.inl rfl
    · exact Or.inr (Or.inl rfl)
theorem sp3 (x : Int32) : x = 0 ∨ x = 1 ∨ x = 2 ∨ wi x 0 2 = 0 := by
  by_cases h : wi x 0 2 = 0
  · exact Or.inr (Or.inr (Or.inr h))
  · obtain ⟨j, h1, h2, rfl⟩ := wi_nat (x := x) (lo := 0) (hi := 2) (by decide) (by decide) h
    rcases (show j = 0 ∨ j = 1 ∨ j = 2 by omega) with rfl | rfl | rfl
    · exact Or.inl rfl
    · exact Or.inr (Or.inl rfl)
    · exact Or.inr (Or.inr (Or.inl rfl))
theorem sp4 (x : Int32) : x = 0 ∨ x = 1 ∨ x = 2 ∨ x = 3 ∨ wi x 0 3 = 0 := by
  by_cases h : wi x 0 3 = 0
  · exact Or.inr (Or.inr (Or.inr (Or.inr h)))
  · obtain ⟨j, h1, h2, rfl⟩ := wi_nat (x := x) (lo := 0) (hi := 3) (by decide) (by decide) h
    rcases (show j = 0 ∨ j = 1 ∨ j = 2 ∨ j = 3 by omega) with rfl | rfl | rfl | rfl
    · exact Or.inl rfl
    · exact Or.inr (Or.inl rfl)
    · exact Or.inr (Or.inr (Or.inl rfl))
    · exact Or.inr (Or.inr (Or.inr (Or.inl rfl)))
theorem wag_len {a : Int32} (h : ¬ wi a 6 26 = 0) : ¬ 200 < 0 + a := by
  obtain ⟨j, h1, h2, rfl⟩ := wi_nat (x := a) (lo := 6) (hi := 26) (by decide) (by decide) h
  rw [show (0 : Int32) + nI j = nI j by rw [← nI_0, nI_add]; congr 1; omega]
  exact nI_nlt (a := 200) (b := j) (by omega) (by decide)
theorem lcmp_self (x : Int64) : lg_cmp x x = 0 := by
  unfold lg_cmp
  rw [if_neg (by rw [gt_iff_lt, Int64.lt_iff_toInt_lt]; omega), if_pos rfl]
theorem load_sum : (0 : Int32) + 0 + 0 = 0 := by decide
theorem wi_1 {x a b : Int32} (h : ¬ wi x a b = 0) : 1 = wi x a b := ((wi_01 x a b).resolve_left h).symm
theorem wic1 : wi 0 0 1 = 1 := by decide
theorem wic2 : wi 1 0 1 = 1 := by decide
theorem wic3 : wi 0 0 2 = 1 := by decide
theorem wic4 : wi 1 0 2 = 1 := by decide
theorem wic5 : wi 2 0 2 = 1 := by decide
theorem wic6 : wi 0 0 0 = 1 := by decide
theorem wi_emp (i : Int32) : wi i 0 (-1) = 0 := wi_of (by
  by_cases q : i < 0
  · exact Or.inl q
  · right
    rw [i32_lt] at q ⊢
    have e1 : (0 : Int32).toInt = 0 := by decide
    have e2 : (-1 : Int32).toInt = -1 := by decide
    omega)
theorem sp9 (w : Int32) : w = 0 ∨ w = 1 ∨ w = 2 ∨ w = 3 ∨ w = 4 ∨ w = 5 ∨ w = 6 ∨ w = 7 ∨ w = 8 ∨ (w.toInt < 0 ∨ 8 < w.toInt) := by
  by_cases h : w.toInt < 0 ∨ 8 < w.toInt
  · simp [h]
  · have e : w = nI w.toInt.toNat := i32_eq (by rw [nI_toInt (by omega)]; omega)
    have hj : w.toInt.toNat ≤ 8 := by omega
    generalize w.toInt.toNat = j at e hj
    subst e
    rcases (show j = 0 ∨ j = 1 ∨ j = 2 ∨ j = 3 ∨ j = 4 ∨ j = 5 ∨ j = 6 ∨ j = 7 ∨ j = 8 by omega) with rfl | rfl | rfl | rfl | rfl | rfl | rfl | rfl | rfl <;> decide
theorem fCount_out {w : Int32} (h : w.toInt < 0 ∨ 8 < w.toInt) : (-1 : Int64) = fCount w := by
  have n : ∀ k : Int32, (0 ≤ k.toInt ∧ k.toInt ≤ 8) → ¬ w = k := fun k hk e => by rw [e] at h; omega
  unfold fCount
  rw [if_neg (n 0 (by decide)), if_neg (n 1 (by decide)), if_neg (n 2 (by decide)), if_neg (n 3 (by decide)), if_neg (n 4 (by decide)), if_neg (n 5 (by decide)), if_neg (n 6 (by decide)), if_neg (n 7 (by decide)), if_neg (n 8 (by decide))]
theorem sp6 (w : Int32) : w = 0 ∨ w = 1 ∨ w = 2 ∨ w = 3 ∨ w = 4 ∨ w = 5 ∨ (w.toInt < 0 ∨ 5 < w.toInt) := by
  by_cases h : w.toInt < 0 ∨ 5 < w.toInt
  · simp [h]
  · have e : w = nI w.toInt.toNat := i32_eq (by rw [nI_toInt (by omega)]; omega)
    have hj : w.toInt.toNat ≤ 5 := by omega
    generalize w.toInt.toNat = j at e hj
    subst e
    rcases (show j = 0 ∨ j = 1 ∨ j = 2 ∨ j = 3 ∨ j = 4 ∨ j = 5 by omega) with rfl | rfl | rfl | rfl | rfl | rfl <;> decide
/-- the table of strides, a static of the class: it lies outside A -/
def SF (tS : Nat) (A : Nat → Prop) (U : State) (H : Heap) : Prop := va_Z "TrainFerry$EmptyingSearch" "STRIDES" "[I" (.ref tS) A U H ∧ va_T .int tS 4 (fun j => .int (([1331, 121, 11, 1] : List Int32).getD j 0)) A U H
def wPreX (D : va_G) (cy : Nat → ClassId) (tS : Nat) (av : List Value) (sz : Nat) (wc : va_W) : Array Value → State → Prop := va_Pc av (fun U => U.heap.size = sz ∧ va_P D vwCl wc U.heap ∧ KX D cy U ∧ va_D (fun _ => True) wc ∧ SF tS (va_A wc sz) U U.heap)
theorem SF.calling {tS : Nat} {A : Nat → Prop} {U : State} {H : Heap} {g : JFrame} {mk : MethodId} {a : Array Value} (h : SF tS A U H) : SF tS A (U.calling g mk a) H := ⟨va_Z.moved (u := U) (U := U.calling g mk a) (Vm.Alike.refl U.vm) h.1, va_T.moved (u := U) (U := U.calling g mk a) (Vm.Alike.refl U.vm) h.2⟩
theorem wPreX.blind {D : va_G} {cy : Nat → ClassId} {tS : Nat} {av : List Value} {sz : Nat} {wc : va_W} : FrameBlind (wPreX D cy tS av sz wc) := fun _ _ _ _ q => ⟨q.1, q.2.1, q.2.2.1, q.2.2.2.1.calling, q.2.2.2.2.1, q.2.2.2.2.2.calling⟩
theorem SF.go {tS : Nat} {A A1 : Nat → Prop} {s U : State} {H : Heap} {locs : List Loc} (h : SF tS A s s.heap) (hS : va_S A s.heap H locs) (hF : ∀ q, A1 q → A q) (hW : s.vm.Alike U.vm) : SF tS A1 U H := ⟨((h.1.kept hS.2.1).narrow hF).moved hW, ((h.2.kept hS.2.1).narrow hF).moved hW⟩
theorem pre_SX {s : State} {H : Heap} {locs : List Loc} {D : va_G} {cy : Nat → ClassId} {A : Nat → Prop} {ws wc : va_W} {av : List Value} {tS : Nat} (hKX : KX D cy s) (hP : va_P D vwCl ws H) (hD : va_D A ws) (hSF : SF tS A s s.heap) (hS : va_S A s.heap H locs) (hA : ∀ q, s.heap.size ≤ q → A q) (isC : List Nat) (h1 : isC.filterMap (fun i => ws[i]?) = wc) (hn : va_nd isC = true) (h2 : isC.map (fun i => ws[i]?) = wc.map some) : PreS s H (wPreX D cy tS av H.size wc) av :=
  ⟨wPreX.blind, fun U hU hW => ⟨rfl, by rw [hU], by rw [hU]; exact hP.sub isC h1, hKX.warm hW, (hD.sub isC hn h2).weaken (fun _ _ _ _ => trivial), by rw [hU]; exact hSF.go hS (va_free (wc := wc) hD hS hA isC h2) hW.alike⟩⟩
theorem pre_VX {s : State} {H : Heap} {locs : List Loc} {D : va_G} {cy : Nat → ClassId} {A : Nat → Prop} {ws wc : va_W} {av : List Value} {tS : Nat} {b ci q0 : Nat} {r : vw_C} {fs : List Value} (hKX : KX D cy s) (hP : va_P D vwCl ws H) (hD : va_D A ws) (hSF : SF tS A s s.heap) (hS : va_S A s.heap H locs) (hA : ∀ q, s.heap.size ≤ q → A q) (hc : vwCl[ci]? = some r) (he : ws[q0]? = some (b, .inr (ci, fs))) (isC : List Nat) (h1 : isC.filterMap (fun i => ws[i]?) = wc) (hn : va_nd isC = true) (h2 : isC.map (fun i => ws[i]?) = wc.map some) : PreV s H r.1 b (wPreX D cy tS (.ref b :: av) H.size wc) av :=
  ⟨wPreX.blind, va_recv hKX.1 hP hc he, fun U hU hW => ⟨rfl, by rw [hU], by rw [hU]; exact hP.sub isC h1, hKX.warm hW, (hD.sub isC hn h2).weaken (fun _ _ _ _ => trivial), by rw [hU]; exact hSF.go hS (va_free (wc := wc) hD hS hA isC h2) hW.alike⟩⟩
theorem met_goX {l : Launch} {D : va_G} {cy : Nat → ClassId} {tS : Nat} {y : MethodName} {ws ws' : List Cond} {rm : Room} {cc : ByteArray} {maxL : Nat} {ret : Option FieldType} {av : List Value} {wc : va_W} {sz mc ms : Nat} {Qc : (Nat → Prop) → Array Value → State → Outcome → State → Prop}
    (hy : plainName y.cls = true) (hw : ws = Cond.code y cc maxL ret :: ws') (hlen : (lg_sl av).length ≤ maxL)
    (body : ∀ (p : Program) (e : Env) (s : State) (m : MethodId) (below : List Frame) (meth : Method) (c : Code) (ls : Array Slot) (A : Nat → Prop), p.tables.exec = Jvm.exec → c.code = cc → meth.sig.returnType = ret → c.maxLocals = maxL → s.vm.findClass y.cls = some m.cls → (∀ w ∈ ws, w.before av.toArray s = true) → meth.locks = false → meth.name = y.name → KX D cy s → SF tS A s s.heap → va_P D vwCl wc s.heap → va_D A wc → (∀ q, s.heap.size ≤ q → A q) → va_S A s.heap s.heap [] → lv_has ls maxL (lv_args 0 av) →
      W p l e (headSpec ws rm).room s m av.toArray below meth c s.heap [] 0 0 (MQ below (Qc A) av.toArray s mc ms A) (F0 m 0 ls [])) : Met l y ws rm (wPreX D cy tS av sz wc) (Qc (va_A wc sz)) mc ms (va_A wc sz) := by
  refine Met.ofW (cc := cc) (maxL := maxL) (ret := ret) hy hw ?_
  intro p e s m args below meth c s₁ B hml hv
  obtain ⟨rfl, hsz, hP, hK, hD0, hSF⟩ := hv
  subst hsz
  rw [lg_entry_eq]
  exact body p e s m below meth c _ _ B.exec B.bytes B.returns hml (findClass_of_methodNamed B.named) (atoms_spec (ws := ws) B.pre) B.notSynchronized (name_of_methodNamed B.named B.method).1 hK hSF hP (hD0.self (sz := s.heap.size)) (fun q h => Or.inr h) va_S.rf (lv_entry av hlen)
theorem sh_out {x : Int32} (h1 : ¬ x = 0) (h2 : ¬ x = 1) : 0 = wi x 0 1 := by
  rcases sp2 x with h | h | h
  · exact absurd h h1
  · exact absurd h h2
  · exact h.symm
theorem le_nlt0 {i : Int32} (h : ¬ i < 0) : 0 ≤ i := Int32.not_lt.mp h
theorem wag_len2 {a : Int32} (h : ¬ wi a 6 26 = 0) : 0 + a ≤ 200 := Int32.not_lt.mp (wag_len h)
theorem ld_out {a : Int32} (h : wi a 0 0 = 0) (h2 : ¬ wi a 0 6 = 0) : ¬ a ≤ 0 := by
  intro q
  rcases wi_0 h with h3 | h3
  · exact (wi_n0 h2).1 h3
  · exact absurd h3 (Int32.not_lt.mpr q)
theorem ld_out2 {a : Int32} (h : wi a 0 0 = 0) (h2 : ¬ wi a 0 6 = 0) : 0 < a := Int32.not_le.mp (ld_out h h2)
