/-! rows, mean -/
def eu (a b : Nat) : Nat → Nat × Nat
  | 0 => (a, b)
  | k + 1 => if (eu a b k).2 = 0 then eu a b k else ((eu a b k).2, (eu a b k).1 % (eu a b k).2)
theorem eu_add (a b : Nat) (j : Nat) : ∀ k : Nat, eu a b (j + k) = eu (eu a b j).1 (eu a b j).2 k := by
  intro k
  induction k with
  | zero => rfl
  | succ k ih =>
    show (if (eu a b (j + k)).2 = 0 then eu a b (j + k) else ((eu a b (j + k)).2, (eu a b (j + k)).1 % (eu a b (j + k)).2)) = _
    rw [eu, ih]
theorem eu_zero (a : Nat) : ∀ k : Nat, (eu a 0 k) = (a, 0) := by
  intro k
  induction k with
  | zero => rfl
  | succ k ih => rw [eu, ih]; rfl
theorem eu_end : ∀ m a b : Nat, b < 2 ^ m → (eu a b (2 * m)).2 = 0 := by
  intro m
  induction m with
  | zero => intro a b h; show b = 0; simp at h; exact h
  | succ m ih =>
    intro a b h
    rw [show 2 * (m + 1) = 2 + 2 * m by omega, eu_add]
    by_cases hb : b = 0
    · subst hb
      rw [eu_zero, eu_zero]
    · have e1 : eu a b 1 = (b, a % b) := by
        show (if b = 0 then (a, b) else (b, a % b)) = _
        rw [if_neg hb]
      have hr : a % b < b := Nat.mod_lt _ (by omega)
      by_cases hr0 : a % b = 0
      · have e2 : eu a b 2 = (b, 0) := by
          show (if (eu a b 1).2 = 0 then eu a b 1 else _) = _
          rw [e1, if_pos hr0, hr0]
        rw [e2, eu_zero]
      · have e2 : eu a b 2 = (a % b, b % (a % b)) := by
          show (if (eu a b 1).2 = 0 then eu a b 1 else ((eu a b 1).2, (eu a b 1).1 % (eu a b 1).2)) = _
          rw [e1, if_neg hr0]
        rw [e2]
        refine ih _ _ ?_
        have h1 : b % (a % b) < a % b := Nat.mod_lt _ (by omega)
        have h2 : b % (a % b) + (a % b) * (b / (a % b)) = b := Nat.mod_add_div b (a % b)
        have h3 : 1 ≤ b / (a % b) := (Nat.one_le_div_iff (by omega)).mpr (by omega)
        have h4 : (a % b) * 1 ≤ (a % b) * (b / (a % b)) := Nat.mul_le_mul_left _ h3
        rw [Nat.pow_succ] at h
        show b % (a % b) < 2 ^ m
        omega
theorem eu_pos {a b : Nat} (h : 0 < b) : ∀ k : Nat, 0 < (eu a b k).2 ∨ 0 < (eu a b k).1 := by
  intro k
  induction k with
  | zero => exact Or.inl h
  | succ k ih =>
    rw [eu]
    by_cases h0 : (eu a b k).2 = 0
    · rw [if_pos h0]; exact ih
    · rw [if_neg h0]; right; show 0 < (eu a b k).2; omega
theorem eu_le {a b M : Nat} (h1 : a ≤ M) (h2 : b ≤ M) : ∀ k : Nat, (eu a b k).1 ≤ M ∧ (eu a b k).2 ≤ M := by
  intro k
  induction k with
  | zero => exact ⟨h1, h2⟩
  | succ k ih =>
    rw [eu]
    by_cases h0 : (eu a b k).2 = 0
    · rw [if_pos h0]; exact ih
    · rw [if_neg h0]
      have : (eu a b k).1 % (eu a b k).2 < (eu a b k).2 := Nat.mod_lt _ (by omega)
      exact ⟨ih.2, by show (eu a b k).1 % (eu a b k).2 ≤ M; omega⟩
def gc (a b : Nat) : Nat := if anyN (fun k => (eu a b k).2 == 0) 22 = true then (eu a b (fstN (fun k => (eu a b k).2 == 0) 0 22)).1 else (eu a b 22).1
theorem fstN_spec {p : Nat → Bool} : ∀ n k : Nat, (∃ i, k ≤ i ∧ i < k + n ∧ p i = true) → p (fstN p k n) = true ∧ k ≤ fstN p k n ∧ fstN p k n < k + n := by
  intro n
  induction n with
  | zero => rintro k ⟨i, h1, h2, h3⟩; omega
  | succ n ih =>
    rintro k ⟨i, h1, h2, h3⟩
    rw [fstN]
    cases hp : p k with
    | true => rw [if_pos rfl]; exact ⟨hp, by omega, by omega⟩
    | false =>
      rw [if_neg (by simp)]
      have hne : i ≠ k := by intro e; subst e; rw [hp] at h3; cases h3
      obtain ⟨w1, w2, w3⟩ := ih (k + 1) ⟨i, by omega, by omega, h3⟩
      exact ⟨w1, by omega, by omega⟩
theorem gc_pos {a b : Nat} (h : 0 < b) (hb : b < 2048) : 0 < gc a b := by
  unfold gc
  by_cases ha : anyN (fun k => (eu a b k).2 == 0) 22 = true
  · rw [if_pos ha]
    obtain ⟨i, h1, h2⟩ := (anyN_iff _).mp ha
    have h3 := (fstN_spec (p := fun k => (eu a b k).2 == 0) 22 0 ⟨i, by omega, by omega, h2⟩).1
    have h4 : (eu a b (fstN (fun k => (eu a b k).2 == 0) 0 22)).2 = 0 := by simpa using h3
    have := eu_pos (a := a) h (fstN (fun k => (eu a b k).2 == 0) 0 22)
    omega
  · rw [if_neg ha]
    have h1 : (eu a b 22).2 = 0 := eu_end 11 a b (by simpa using hb)
    have := eu_pos (a := a) h 22
    omega
theorem gc_le {a b M : Nat} (h1 : a ≤ M) (h2 : b ≤ M) : gc a b ≤ M := by
  unfold gc
  split
  · exact (eu_le h1 h2 _).1
  · exact (eu_le h1 h2 _).1
section GCD
variable {u : Mem} {β : Type} {a b : Nat}
theorem mod_j {x y : Nat} (hy : 0 < y) (h1 : x < 2147483648) (h2 : y < 2147483648) : J (x : Int) - J (x : Int) / J (y : Int) * J (y : Int) = J ((x % y : Nat) : Int) := by
  rw [j_div _ _ (by omega) (by omega) (by omega) (by omega), j_mul, j_sub]
  congr 1
  rw [Int.natCast_emod, Int.emod_def, Int.mul_comm]
theorem gcC (hb0 : 0 < b) (hb : b < 2048) (ha : a < 2147483648) {f : Int32 → Option β} : (fX1_greatestDivisor (J a) (J b) u).bind f = f (J (gc a b)) := by
  have hg := gc_pos (a := a) hb0 hb
  have hgl := gc_le (a := a) (b := b) (M := 2147483647) (by omega) (by omega)
  have e : lp (fun s : Int32 × Int32 × Int32 => bX1_greatestDivisor_7 u s.1 s.2.1 s.2.2) FU (J a, J b, (0 : Int32)) = some (J (gc a b)) := by
    have h := lp_find (f := fun s : Int32 × Int32 × Int32 => bX1_greatestDivisor_7 u s.1 s.2.1 s.2.2) (fun k => (J ((eu a b k).1 : Nat), J ((eu a b k).2 : Nat), J (k : Nat))) (fun k => (eu a b k).2 == 0) (fun k => J ((eu a b k).1 : Nat)) (J ((eu a b 22).1 : Nat)) 22 FU (FU_gt (by omega)) (fun k hk hp => ?_) (fun k hk hp => ?_) ?_
    · refine Eq.trans h ?_
      unfold gc
      by_cases hx : anyN (fun k => (eu a b k).2 == 0) 22 = true
      · rw [if_pos hx, if_pos hx]
      · rw [if_neg hx, if_neg hx]
    · have hp : (eu a b k).2 ≠ 0 := by simpa using hp
      obtain ⟨w1, w2⟩ := eu_le (a := a) (b := b) (M := 2147483647) (by omega) (by omega) k
      show bX1_greatestDivisor_7 u (J ((eu a b k).1 : Nat)) (J ((eu a b k).2 : Nat)) (J (k : Nat)) = _
      unfold bX1_greatestDivisor_7
      rw [mod_j (by omega) (by omega) (by omega)]
      simp (disch := omega) only [j100, j0, j_lt, show (k : Int) < 100 by omega, show (0 : Int) < ((eu a b k).2 : Nat) by omega, if_true, ↓s_nz, s_nm, j1, j_add, jn1]
      rw [eu, if_neg hp]
    · have hp : (eu a b k).2 = 0 := by simpa using hp
      show bX1_greatestDivisor_7 u (J ((eu a b k).1 : Nat)) (J ((eu a b k).2 : Nat)) (J (k : Nat)) = _
      unfold bX1_greatestDivisor_7
      rw [hp]
      simp (disch := omega) only [j100, j0, j_lt, show (k : Int) < 100 by omega, show ¬ (0 : Int) < ((0 : Nat) : Int) by omega, if_true, if_false]
    · have hp : (eu a b 22).2 = 0 := eu_end 11 a b (by simpa using hb)
      show bX1_greatestDivisor_7 u (J ((eu a b 22).1 : Nat)) (J ((eu a b 22).2 : Nat)) (J (22 : Nat)) = _
      unfold bX1_greatestDivisor_7
      rw [hp]
      simp (disch := omega) only [j100, j0, j_lt, show ((22 : Nat) : Int) < 100 by omega, show ¬ (0 : Int) < ((0 : Nat) : Int) by omega, if_true, if_false]
  unfold fX1_greatestDivisor jX1_greatestDivisor_34
  rw [e, s_some, j1, mxI_j _ _ (by omega) (by omega) (by omega) (by omega), s_some, show max ((gc a b : Nat) : Int) 1 = gc a b by omega]
theorem gcM (hb : b < 2048) (ha : a < 2147483648) {f : Int32 → Option β} : (fX12_common (J a) (J b) u).bind f = f (J (gc a b)) := by
  have e : lp (fun s : Int32 × Int32 => bX12_common_4 u s.1 s.2) FU (J a, J b) = some (J (gc a b)) := by
    have h := lp_find (f := fun s : Int32 × Int32 => bX12_common_4 u s.1 s.2) (fun k => (J ((eu a b k).1 : Nat), J ((eu a b k).2 : Nat))) (fun k => (eu a b k).2 == 0) (fun k => J ((eu a b k).1 : Nat)) (J ((eu a b 22).1 : Nat)) 22 FU (FU_gt (by omega)) (fun k hk hp => ?_) (fun k hk hp => ?_) ?_
    · refine Eq.trans h ?_
      unfold gc
      by_cases hx : anyN (fun k => (eu a b k).2 == 0) 22 = true
      · rw [if_pos hx, if_pos hx]
      · rw [if_neg hx, if_neg hx]
    · have hp : (eu a b k).2 ≠ 0 := by simpa using hp
      obtain ⟨w1, w2⟩ := eu_le (a := a) (b := b) (M := 2147483647) (by omega) (by omega) k
      show bX12_common_4 u (J ((eu a b k).1 : Nat)) (J ((eu a b k).2 : Nat)) = _
      unfold bX12_common_4
      rw [mod_j (by omega) (by omega) (by omega)]
      simp (disch := omega) only [j0, j_eq, show ¬ (((eu a b k).2 : Nat) : Int) = 0 by omega, if_false, ↓s_nz, s_nm, j1, j_add, jn1]
      rw [eu, if_neg hp]
    · have hp : (eu a b k).2 = 0 := by simpa using hp
      show bX12_common_4 u (J ((eu a b k).1 : Nat)) (J ((eu a b k).2 : Nat)) = _
      unfold bX12_common_4
      rw [hp]
      rfl
    · have hp : (eu a b 22).2 = 0 := eu_end 11 a b (by simpa using hb)
      show bX12_common_4 u (J ((eu a b 22).1 : Nat)) (J ((eu a b 22).2 : Nat)) = _
      unfold bX12_common_4
      rw [hp]
      rfl
  unfold fX12_common
  rw [e]
  rfl
end GCD
