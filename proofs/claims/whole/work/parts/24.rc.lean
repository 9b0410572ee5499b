/-! what the document asks, as functions of the state -/
def sm (f : Int → Int) (a : Int) : Nat → Int
  | 0 => 0
  | n + 1 => sm f a n + f (a + n)
def sumN (f : Nat → Int) : Nat → Int
  | 0 => 0
  | n + 1 => sumN f n + f n
def anyN (p : Nat → Bool) : Nat → Bool
  | 0 => false
  | n + 1 => anyN p n || p n
/-- the first place from k on, of n, with p; else the place behind -/
def fstN (p : Nat → Bool) : Nat → Nat → Nat
  | k, 0 => k
  | k, n + 1 => if p k then k else fstN p (k + 1) n
def cost (C : Sp) (q : Nat) (t : Int) : Int := if C 65 q = 1 then C 56 t.toNat else C 57 t.toNat
def rowOn (C : Sp) (g q : Nat) (d : Int) : Int := if lastD C g q 1000 (nG C) = none then -1 else if hl C g q d = -1 ∧ C 55 0 = 0 then -1 else cost C q (if hl C g q d = -1 then 5 else hl C g q d)
def lenR (C : Sp) (q : Nat) : Nat := if C 65 q < 2 then (min (C 64 q + 1) (C 66 q) - C 63 q).toNat else 0
def rowN (C : Sp) (g q : Nat) : Int := sm (fun d => if rowOn C g q d = -1 then 0 else 1) (C 63 q) (lenR C q)
def rowS (C : Sp) (g q : Nat) : Int := sm (fun d => if rowOn C g q d = -1 then 0 else rowOn C g q d) (C 63 q) (lenR C q)
def cnts (C : Sp) (g q : Nat) : Bool := decide (C 55 4 ≤ rowN C g q)
def totN (C : Sp) (g : Nat) : Int := sumN (fun q => if cnts C g q = true then rowN C g q else 0) (nQ C)
def totS (C : Sp) (g : Nat) : Int := sumN (fun q => if cnts C g q = true then rowS C g q else 0) (nQ C)
def cpOf (C : Sp) (k : Nat) (o : Option Nat) : Bool := match o with
  | none => false
  | some i => decide (C 70 i = C 70 k) && decide (C 69 k - C 69 i ≤ C 55 2)
/-- guess k is a copy of o's -/
def isCp (C : Sp) (k o : Nat) : Bool := cpOf C k (lastD C o (C 68 k).toNat (C 69 k - 1) (nG C))
def cpsOf (C : Sp) (g o : Nat) (d : Int) : Int := sumN (fun k => if C 67 k = g ∧ C 69 k ≤ d ∧ isCp C k o = true then 1 else 0) (nG C)
def isCr (C : Sp) (g q : Nat) (d : Int) : Bool := decide (C 55 2 ≠ -1) && anyN (fun o => decide (o ≠ g) && decide (hl C o q d ≠ -1) && decide (C 55 3 ≤ cpsOf C g o d)) 20
def wT (C : Sp) (g : Nat) (d : Int) : Int := sumN (fun q => if cnts C g q = true ∧ C 66 q < d then rowN C g q * cost C q 5 else 0) (nQ C)
def wS (C : Sp) (g : Nat) (d : Int) : Int := sumN (fun q => if cnts C g q = true ∧ C 66 q < d then rowS C g q else 0) (nQ C)
def wgt (C : Sp) (g : Nat) (d : Int) : Int := if C 55 1 = 0 then 1 else if wS C g d < wT C g d then 1 + 100 * (wT C g d - wS C g d) / wT C g d else 1
def wAt (C : Sp) (q : Nat) (d : Int) (t : Nat) : Int := sumN (fun g => if hl C g q d = t ∧ isCr C g q d = false then wgt C g d else 0) 20
def wAll (C : Sp) (q : Nat) (d : Int) : Int := sumN (fun g => if hl C g q d ≠ -1 ∧ isCr C g q d = false then wgt C g d else 0) 20
def jnd (C : Sp) (q : Nat) (d : Int) : Int := if wAll C q d = 0 then -1 else (fstN (fun t => decide (wAll C q d ≤ 2 * sumN (wAt C q d) (t + 1))) 0 10 : Nat)
def cntQ (C : Sp) (q : Nat) : Int := sumN (fun k => if C 68 k = q then 1 else 0) (nG C)
/-! what the class's cells hold -/
def CostOK (C : Sp) (u : Mem) : Prop := (∀ g q, g < 20 → q < nQ C → mI u 35 (g * 20 + q) = J (rowN C g q) ∧ mI u 36 (g * 20 + q) = J (rowS C g q)) ∧ ∀ g, g < 20 → mI u 37 g = J (totN C g) ∧ mI u 38 g = J (totS C g)
def CopOK (C : Sp) (u : Mem) : Prop := ∀ g o, g < 20 → o < 20 → ∃ z : Int, mI u 40 (g * 20 + o) = J z ∧ 0 ≤ z ∧ z ≤ 1000 ∧ ∀ d : Int, d ≤ 999 → (z ≤ d ↔ o ≠ g ∧ C 55 2 ≠ -1 ∧ C 55 3 ≤ cpsOf C g o d)
def JndOK (C : Sp) (u : Mem) : Prop := ∀ q s : Nat, q < nQ C → s < 60 → mI u 42 (q * 60 + s) = J (-2) ∨ mI u 42 (q * 60 + s) = J (jnd C q (C 63 q + s))
def cel (o : Option Nat) : Option Nat := o.map fun i => 88 + i
def RCa (C D : Sp) (u : Mem) : Prop := mI u 1 1 = J (D 55 16) ∧ (∀ k, k < 500 → mI u 2 k = J (D 61 k)) ∧ mI u 3 1 = J (D 55 22) ∧ mI u 3 2 = J (D 55 23) ∧ mI u 7 2 = J (C 55 0) ∧ mI u 7 3 = J (C 55 1) ∧ mI u 7 4 = J (C 55 2) ∧ mI u 7 5 = J (C 55 3) ∧ mI u 7 6 = J (C 55 4) ∧ (∀ k, k < 11 → mI u 8 k = J (C 56 k)) ∧ (∀ k, k < 11 → mI u 9 k = J (C 57 k)) ∧ mI u 10 3 = J (C 55 25) ∧ mI u 10 4 = J (C 55 26) ∧ mI u 45 3 = J (D 55 27) ∧ (∀ k, k < 30 → mI u 46 k = J (D 71 k) ∧ mI u 47 k = J (D 72 k) ∧ mI u 48 k = J (D 73 k)) ∧ ∀ q, q < 20 → mI u 50 q = J (D 84 q)
def RCq (C : Sp) (u : Mem) : Prop := (∀ q, q < nQ C → mI u (14 + q) 0 = J (C 63 q) ∧ mI u (14 + q) 1 = J (C 64 q) ∧ mI u (14 + q) 2 = J (C 65 q) ∧ mI u (14 + q) 3 = J (C 66 q) ∧ mI u (14 + q) 4 = J (cntQ C q)) ∧ ∀ q, nQ C ≤ q → q < 20 → mI u (14 + q) 2 = J 3 ∧ mI u (14 + q) 3 = J (-1) ∧ mI u (14 + q) 4 = J 0
def RCg (C : Sp) (u : Mem) : Prop := mN u = 88 + nG C ∧ (∀ i, i < nG C → mI u (88 + i) 0 = J (C 67 i) ∧ mI u (88 + i) 1 = J (C 68 i) ∧ mI u (88 + i) 2 = J (C 69 i) ∧ mI u (88 + i) 3 = J (C 70 i) ∧ mR u (88 + i) 4 = cel (lastD C (C 67 i).toNat (C 68 i).toNat 1000 i)) ∧ (∀ g q, g < 20 → q < 20 → mR u 12 (g * 20 + q) = cel (lastD C g q 1000 (nG C))) ∧ ∃ l : List Nat, l.Perm (List.range (nG C)) ∧ l.Pairwise (fun i j => C 69 i ≤ C 69 j) ∧ ∀ p i, l[p]? = some i → mR u 13 p = some (88 + i)
def RCv (C : Sp) (n : Nat) (u : Mem) : Prop := ∃ v s1 s2 : Int, mI u 10 5 = J v ∧ mI u 34 6 = J s1 ∧ mI u 39 10 = J s2 ∧ 0 ≤ v ∧ v ≤ n ∧ -1 ≤ s1 ∧ s1 ≤ v ∧ -1 ≤ s2 ∧ s2 ≤ v ∧ (s1 = v → CostOK C u) ∧ (s2 = v → CopOK C u ∧ JndOK C u)
def RC (C D : Sp) (n : Nat) (u : Mem) : Prop := RCa C D u ∧ RCq C u ∧ RCg C u ∧ RCv C n u
/-- the invariant of the run -/
def Inv (C D : Sp) (n : Nat) (u : Mem) : Prop := SH u ∧ OkC C ∧ OkD C D ∧ RM C D u ∧ RC C D n u
theorem CostOK_eq {C : Sp} {u u' : Mem} (h : CostOK C u) (e : ∀ a k, 35 ≤ a → a ≤ 38 → mI u' a k = mI u a k) : CostOK C u' := by
  unfold CostOK at h ⊢
  simp only [e 35 _ (by omega) (by omega), e 36 _ (by omega) (by omega), e 37 _ (by omega) (by omega), e 38 _ (by omega) (by omega)]
  exact h
theorem CopOK_eq {C : Sp} {u u' : Mem} (h : CopOK C u) (e : ∀ k, mI u' 40 k = mI u 40 k) : CopOK C u' := by
  unfold CopOK at h ⊢
  simp only [e]
  exact h
theorem JndOK_eq {C : Sp} {u u' : Mem} (h : JndOK C u) (e : ∀ k, mI u' 42 k = mI u 42 k) : JndOK C u' := by
  unfold JndOK at h ⊢
  simp only [e]
  exact h
theorem RCa_eq {C D : Sp} {u u' : Mem} (h : RCa C D u) (e : ∀ a k, a < 3 ∨ a = 3 ∧ (k = 1 ∨ k = 2) ∨ 7 ≤ a ∧ a ≤ 10 ∧ ¬(a = 10 ∧ k = 5) ∨ 45 ≤ a ∧ a ≤ 48 ∨ a = 50 → mI u' a k = mI u a k) : RCa C D u' := by
  unfold RCa at h ⊢
  simp (disch := omega) only [e]
  exact h
theorem RCq_eq {C : Sp} {u u' : Mem} (h : RCq C u) (e : ∀ a k, 14 ≤ a → a < 34 → mI u' a k = mI u a k) (hC : nQ C ≤ 20) : RCq C u' := by
  refine ⟨fun q hq => ?_, fun q h1 h2 => ?_⟩
  · simp (disch := omega) only [e]
    exact h.1 q hq
  · simp (disch := omega) only [e]
    exact h.2 q h1 h2
theorem RCg_eq {C : Sp} {u u' : Mem} (h : RCg C u) (en : mN u' = mN u) (e : ∀ a k, 88 ≤ a → mI u' a k = mI u a k) (er : ∀ a k, a = 12 ∨ a = 13 ∨ 88 ≤ a → mR u' a k = mR u a k) : RCg C u' := by
  unfold RCg at h ⊢
  rw [en]
  refine ⟨h.1, ?_, ?_, ?_⟩
  · intro i hi
    simp (disch := omega) only [e, er]
    exact h.2.1 i hi
  · intro g q hg hq
    simp (disch := omega) only [er]
    exact h.2.2.1 g q hg hq
  · obtain ⟨l, h1, h2, h3⟩ := h.2.2.2
    refine ⟨l, h1, h2, fun p i hp => ?_⟩
    simp (disch := omega) only [er]
    exact h3 p i hp
theorem RCv_eq {C : Sp} {n n' : Nat} {u u' : Mem} (h : RCv C n u) (hn : n ≤ n') (e : ∀ a k, a = 10 ∧ k = 5 ∨ 34 ≤ a ∧ a ≤ 38 ∨ a = 39 ∧ k = 10 ∨ a = 40 ∨ a = 42 → mI u' a k = mI u a k) : RCv C n' u' := by
  obtain ⟨v, s1, s2, h1, h2, h3, h4, h5, h6, h7, h8, h9, h10, h11⟩ := h
  refine ⟨v, s1, s2, ?_, ?_, ?_, h4, by omega, h6, h7, h8, h9, fun q => CostOK_eq (h10 q) fun a k _ _ => e a k (by omega), fun q => ⟨CopOK_eq (h11 q).1 fun k => e _ k (by omega), JndOK_eq (h11 q).2 fun k => e _ k (by omega)⟩⟩
  · rw [e _ _ (by omega)]; exact h1
  · rw [e _ _ (by omega)]; exact h2
  · rw [e _ _ (by omega)]; exact h3
theorem RC_frM {C D : Sp} {n : Nat} {u u' : Mem} (h : RC C D n u) (hC : nQ C ≤ 20) (f : FrM u u') : RC C D n u' :=
  ⟨RCa_eq h.1 fun a k ha => f.2.1 a k (by omega), RCq_eq h.2.1 (fun a k h1 h2 => f.2.1 a k (by omega)) hC, RCg_eq h.2.2.1 f.1 (fun a k ha => f.2.1 a k (by omega)) (fun a k _ => f.2.2 a k), RCv_eq h.2.2.2 (Nat.le_refl _) fun a k ha => f.2.1 a k (by omega)⟩
theorem SH_frM {u u' : Mem} (h : SH u) (f : FrM u u') : SH u' := SH_same h f.1 fun a k _ => f.2.2 a k
