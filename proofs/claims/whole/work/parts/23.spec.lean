/-! THE STATE as whole numbers: C (rules, questions, guesses), D (tape, fault, ties, mended); cells and places are the reference's -/
abbrev Sp : Type := Nat → Nat → Int
def up (C : Sp) (a k : Nat) (v : Int) : Sp := fun b j => if b = a ∧ j = k then v else C b j
theorem up_at (C : Sp) (a k : Nat) (v : Int) (b j : Nat) : up C a k v b j = if b = a ∧ j = k then v else C b j := rfl
abbrev nQ (C : Sp) : Nat := (C 55 25).toNat
abbrev nG (C : Sp) : Nat := (C 55 26).toNat
abbrev nT (D : Sp) : Nat := (D 55 27).toNat
/-- the last guess below n of g on q on a day up to d -/
def lastD (C : Sp) (g q : Nat) (d : Int) : Nat → Option Nat
  | 0 => none
  | n + 1 => if C 67 n = g ∧ C 68 n = q ∧ C 69 n ≤ d then some n else lastD C g q d n
def tenOf (C : Sp) (o : Option Nat) : Int := match o with
  | none => -1
  | some k => C 70 k
/-- what g holds of q on d -/
def hl (C : Sp) (g q : Nat) (d : Int) : Int := tenOf C (lastD C g q d (nG C))
def OkQ (C : Sp) (q : Nat) : Prop := (0 ≤ C 63 q ∧ C 63 q ≤ C 64 q ∧ C 64 q ≤ 999 ∧ C 64 q - C 63 q < 60) ∧ (0 ≤ C 65 q ∧ C 65 q ≤ 3) ∧ (C 65 q < 2 → C 63 q ≤ C 66 q ∧ C 66 q ≤ 999) ∧ (2 ≤ C 65 q → C 66 q = -1)
def OkG (C : Sp) (k : Nat) : Prop := 0 ≤ C 67 k ∧ C 67 k < 20 ∧ 0 ≤ C 68 k ∧ C 68 k < C 55 25 ∧ C 63 (C 68 k).toNat ≤ C 69 k ∧ C 69 k ≤ C 64 (C 68 k).toNat ∧ 0 ≤ C 70 k ∧ C 70 k ≤ 10
def OkR (C : Sp) : Prop := (∀ t, t < 11 → 0 ≤ C 56 t ∧ C 56 t ≤ 1000 ∧ 0 ≤ C 57 t ∧ C 57 t ≤ 1000) ∧ (C 55 0 = 0 ∨ C 55 0 = 1) ∧ (C 55 1 = 0 ∨ C 55 1 = 1) ∧ (C 55 2 = -1 ∧ C 55 3 = -1 ∨ 1 ≤ C 55 2 ∧ C 55 2 ≤ 30 ∧ 1 ≤ C 55 3 ∧ C 55 3 ≤ 99) ∧ (1 ≤ C 55 4 ∧ C 55 4 ≤ 99)
def OkC (C : Sp) : Prop := (0 ≤ C 55 25 ∧ C 55 25 ≤ 20) ∧ (0 ≤ C 55 26 ∧ C 55 26 ≤ 300) ∧ (∀ q, q < nQ C → OkQ C q) ∧ (∀ k, k < nG C → OkG C k) ∧ (∀ i j, i < j → j < nG C → C 67 i = C 67 j → C 68 i = C 68 j → C 69 i ≤ C 69 j) ∧ OkR C
def OkD (C D : Sp) : Prop := (0 ≤ D 55 16 ∧ D 55 16 ≤ 500) ∧ (∀ k, (k < 500 → -128 ≤ D 61 k) ∧ (k < 500 → D 61 k ≤ 127)) ∧ (0 ≤ D 55 22 ∧ D 55 22 ≤ 3) ∧ (-1 ≤ D 55 23 ∧ D 55 23 ≤ 500) ∧ (0 ≤ D 55 27 ∧ D 55 27 ≤ 30) ∧ (∀ k, k < nT D → 0 ≤ D 71 k ∧ D 71 k < C 55 25 ∧ 0 ≤ D 72 k ∧ D 72 k < C 55 25 ∧ D 71 k ≠ D 72 k ∧ 0 ≤ D 73 k ∧ D 73 k ≤ 2) ∧ (∀ q, (q < 20 → -1 ≤ D 84 q) ∧ (q < 20 → D 84 q ≤ 10) ∧ (nQ C ≤ q → q < 20 → D 84 q = -1))
theorem OkC.q {C : Sp} (h : OkC C) : ((nQ C : Nat) : Int) = C 55 25 ∧ nQ C ≤ 20 := by
  have := h.1
  show (((C 55 25).toNat : Nat) : Int) = C 55 25 ∧ (C 55 25).toNat ≤ 20
  omega
theorem OkC.g {C : Sp} (h : OkC C) : ((nG C : Nat) : Int) = C 55 26 ∧ nG C ≤ 300 := by
  have := h.2.1
  show (((C 55 26).toNat : Nat) : Int) = C 55 26 ∧ (C 55 26).toNat ≤ 300
  omega
theorem OkD.t {C D : Sp} (h : OkD C D) : ((nT D : Nat) : Int) = D 55 27 ∧ nT D ≤ 30 := by
  have := h.2.2.2.2.1
  show (((D 55 27).toNat : Nat) : Int) = D 55 27 ∧ (D 55 27).toNat ≤ 30
  omega
/-! the reference's cells that stay -/
def PC (a k : Nat) : Bool := (a == 55 && (decide (k < 5) || k == 25 || k == 26)) || a == 56 || a == 57 || (decide (63 ≤ a) && decide (a ≤ 70))
def PD (a k : Nat) : Bool := (a == 55 && (k == 16 || k == 22 || k == 23 || k == 27)) || a == 61 || (decide (71 ≤ a) && decide (a ≤ 73)) || a == 84
def RM (C D : Sp) (u : Mem) : Prop := (∀ a k, PC a k = true → mI u a k = J (C a k)) ∧ (∀ a k, PD a k = true → mI u a k = J (D a k))
theorem PCD (a k : Nat) : PC a k = true → PD a k = true → False := by
  intro h1 h2
  simp only [PC, PD, Bool.or_eq_true, Bool.and_eq_true, beq_iff_eq, decide_eq_true_eq] at h1 h2
  omega
theorem RM_upC {C D : Sp} {u : Mem} {a k : Nat} {v : Int} (h : RM C D u) (e : PC a k = true) : RM (up C a k v) D (sI u a k (J v)) := by
  refine ⟨fun b j hb => ?_, fun b j hb => ?_⟩
  · rw [mI_sI, up_at]
    by_cases hc : b = a ∧ j = k
    · rw [if_pos hc, if_pos hc]
    · rw [if_neg hc, if_neg hc]; exact h.1 b j hb
  · rw [mI_sI, if_neg]
    · exact h.2 b j hb
    · rintro ⟨rfl, rfl⟩; exact PCD _ _ e hb
theorem RM_upD {C D : Sp} {u : Mem} {a k : Nat} {v : Int} (h : RM C D u) (e : PD a k = true) : RM C (up D a k v) (sI u a k (J v)) := by
  refine ⟨fun b j hb => ?_, fun b j hb => ?_⟩
  · rw [mI_sI, if_neg]
    · exact h.1 b j hb
    · rintro ⟨rfl, rfl⟩; exact PCD _ _ hb e
  · rw [mI_sI, up_at]
    by_cases hc : b = a ∧ j = k
    · rw [if_pos hc, if_pos hc]
    · rw [if_neg hc, if_neg hc]; exact h.2 b j hb
/-- scratch places -/
def PX (a k : Nat) : Bool := !(PC a k) && !(PD a k)
theorem RM_sI {C D : Sp} {u : Mem} {a k : Nat} {v : Int32} (h : RM C D u) (e : PX a k = true) : RM C D (sI u a k v) := by
  unfold PX at e
  rw [Bool.and_eq_true, Bool.not_eq_true', Bool.not_eq_true'] at e
  refine ⟨fun b j hb => ?_, fun b j hb => ?_⟩
  · rw [mI_sI, if_neg]
    · exact h.1 b j hb
    · rintro ⟨rfl, rfl⟩; rw [e.1] at hb; cases hb
  · rw [mI_sI, if_neg]
    · exact h.2 b j hb
    · rintro ⟨rfl, rfl⟩; rw [e.2] at hb; cases hb
/-- what the reference leaves alone: the class's cells, and the references -/
def FrM (u u' : Mem) : Prop := mN u' = mN u ∧ (∀ a k, a < 55 ∨ 88 ≤ a → mI u' a k = mI u a k) ∧ ∀ a k, mR u' a k = mR u a k
/-- what the class leaves alone -/
def FrC (u u' : Mem) : Prop := ∀ a k, 55 ≤ a → a < 88 → mI u' a k = mI u a k
theorem FrM.rfl {u : Mem} : FrM u u := ⟨_root_.rfl, fun _ _ _ => _root_.rfl, fun _ _ => _root_.rfl⟩
theorem FrM.trans {u u1 u2 : Mem} (h1 : FrM u u1) (h2 : FrM u1 u2) : FrM u u2 := ⟨h2.1.trans h1.1, fun a k h => (h2.2.1 a k h).trans (h1.2.1 a k h), fun a k => (h2.2.2 a k).trans (h1.2.2 a k)⟩
theorem FrM.sI {u u1 : Mem} (h : FrM u u1) {a k : Nat} {v : Int32} (h1 : 55 ≤ a) (h2 : a < 88) : FrM u (sI u1 a k v) := by
  refine h.trans ⟨_root_.rfl, fun b j hb => ?_, fun _ _ => _root_.rfl⟩
  rw [mI_sI, if_neg (by omega)]
theorem FrM.sL {u u1 : Mem} (h : FrM u u1) {a k : Nat} {v : Int64} : FrM u (sL u1 a k v) := h.trans ⟨_root_.rfl, fun _ _ _ => _root_.rfl, fun _ _ => _root_.rfl⟩
theorem FrC.rfl {u : Mem} : FrC u u := fun _ _ _ _ => _root_.rfl
theorem FrC.trans {u u1 u2 : Mem} (h1 : FrC u u1) (h2 : FrC u1 u2) : FrC u u2 := fun a k ha hb => (h2 a k ha hb).trans (h1 a k ha hb)
theorem FrC.sI {u u1 : Mem} (h : FrC u u1) {a k : Nat} {v : Int32} (h1 : a < 55 ∨ 88 ≤ a) : FrC u (sI u1 a k v) := by
  refine h.trans fun b j h3 h4 => ?_
  rw [mI_sI, if_neg (by omega)]
theorem FrC.sR {u u1 : Mem} (h : FrC u u1) {a k : Nat} {v : Option Nat} : FrC u (sR u1 a k v) := h.trans fun _ _ _ _ => _root_.rfl
theorem RM_frC {C D : Sp} {u u' : Mem} (h : RM C D u) (f : FrC u u') : RM C D u' := by
  refine ⟨fun a k e => ?_, fun a k e => ?_⟩
  · rw [f a k ?_ ?_]
    · exact h.1 a k e
    all_goals
      simp only [PC, Bool.or_eq_true, Bool.and_eq_true, beq_iff_eq, decide_eq_true_eq] at e
      omega
  · rw [f a k ?_ ?_]
    · exact h.2 a k e
    all_goals
      simp only [PD, Bool.or_eq_true, Bool.and_eq_true, beq_iff_eq, decide_eq_true_eq] at e
      omega
