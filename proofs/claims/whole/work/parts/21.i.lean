/-! NUMBERS: memory's ints as J of whole numbers; loops by induction -/
def J (z : Int) : Int32 := Int32.ofInt z
/-- fits an int -/
def RG (z : Int) : Prop := -2147483648 ≤ z ∧ z < 2147483648
theorem j_add (a b : Int) : J a + J b = J (a + b) := (Int32.ofInt_add a b).symm
theorem j_sub (a b : Int) : J a - J b = J (a - b) := (Int32.ofInt_sub a b).symm
theorem j_mul (a b : Int) : J a * J b = J (a * b) := (Int32.ofInt_mul a b).symm
theorem j_neg (a : Int) : - J a = J (- a) := (Int32.ofInt_neg a).symm
theorem j_int (a : Int) (h1 : -2147483648 ≤ a) (h2 : a < 2147483648) : (J a).toInt = a := Int32.toInt_ofInt_of_le h1 h2
theorem j_lt (a b : Int) (h1 : -2147483648 ≤ a) (h2 : a < 2147483648) (h3 : -2147483648 ≤ b) (h4 : b < 2147483648) : (J a < J b) ↔ (a < b) := by
  rw [Int32.lt_iff_toInt_lt, j_int a h1 h2, j_int b h3 h4]
theorem j_le (a b : Int) (h1 : -2147483648 ≤ a) (h2 : a < 2147483648) (h3 : -2147483648 ≤ b) (h4 : b < 2147483648) : (J a ≤ J b) ↔ (a ≤ b) := by
  rw [Int32.le_iff_toInt_le, j_int a h1 h2, j_int b h3 h4]
theorem j_eq (a b : Int) (h1 : -2147483648 ≤ a) (h2 : a < 2147483648) (h3 : -2147483648 ≤ b) (h4 : b < 2147483648) : (J a = J b) ↔ (a = b) := by
  constructor
  · intro h
    have := congrArg Int32.toInt h
    rwa [j_int a h1 h2, j_int b h3 h4] at this
  · intro h; rw [h]
theorem j_self (x : Int32) : J x.toInt = x := Int32.ofInt_toInt x
theorem j_rng (x : Int32) : RG x.toInt := ⟨Int32.le_toInt x, Int32.toInt_lt x⟩
/-- every int is J of a whole number that fits -/
theorem j_ex (x : Int32) : ∃ z : Int, x = J z ∧ -2147483648 ≤ z ∧ z < 2147483648 := ⟨x.toInt, (j_self x).symm, (j_rng x).1, (j_rng x).2⟩
theorem j_nat (a : Int) (h1 : -2147483648 ≤ a) (h2 : a < 2147483648) : (J a).toNatClampNeg = a.toNat := by
  show (J a).toInt.toNat = _
  rw [j_int a h1 h2]
theorem j_inb (a : Int) (n : Nat) (h1 : 0 ≤ a) (h2 : a < n) (h3 : n < 2147483648) : inb (J a) n = true := by
  unfold inb
  rw [j_int a (by omega) (by omega)]
  simp [h1, h2]
theorem j_div (a b : Int) (h1 : 0 ≤ a) (h2 : a < 2147483648) (h3 : 0 < b) (h4 : b < 2147483648) : J a / J b = J (a / b) := by
  apply Int32.toInt.inj
  have hd : a / b ≤ a := Int.ediv_le_self b h1
  have hp : 0 ≤ a / b := Int.ediv_nonneg h1 (Int.le_of_lt h3)
  rw [Int32.toInt_div, j_int a (by omega) h2, j_int b (by omega) h4, j_int (a / b) (by omega) (by omega), Int.tdiv_eq_ediv_of_nonneg h1]
  rw [Int.bmod_eq_of_le (by omega) (by omega)]
theorem mnI_j (a b : Int) (h1 : -2147483648 ≤ a) (h2 : a < 2147483648) (h3 : -2147483648 ≤ b) (h4 : b < 2147483648) : mnI (J a) (J b) = J (min a b) := by
  unfold mnI
  by_cases h : b < a
  · rw [if_pos ((j_lt b a h3 h4 h1 h2).mpr h), Int.min_eq_right (by omega)]
  · rw [if_neg fun q => h ((j_lt b a h3 h4 h1 h2).mp q), Int.min_eq_left (by omega)]
theorem mxI_j (a b : Int) (h1 : -2147483648 ≤ a) (h2 : a < 2147483648) (h3 : -2147483648 ≤ b) (h4 : b < 2147483648) : mxI (J a) (J b) = J (max a b) := by
  unfold mxI
  by_cases h : a < b
  · rw [if_pos ((j_lt a b h1 h2 h3 h4).mpr h), Int.max_eq_right (by omega)]
  · rw [if_neg fun q => h ((j_lt a b h1 h2 h3 h4).mp q), Int.max_eq_left (by omega)]
theorem abI_j (a : Int) (h1 : -2147483648 < a) (h2 : a < 2147483648) : abI (J a) = J (a.natAbs : Int) := by
  unfold abI
  rw [show (0 : Int32) = J 0 from rfl]
  have e := j_le 0 a (by omega) (by omega) (by omega) h2
  by_cases h : 0 ≤ a
  · rw [if_pos (e.mpr h), show ((a.natAbs : Nat) : Int) = a by omega]
  · rw [if_neg fun q => h (e.mp q), j_sub, show ((a.natAbs : Nat) : Int) = 0 - a by omega]
/-- a loop that goes through told states -/
theorem lp_for {S R : Type} {f : S → Option (S ⊕ R)} (st : Nat → S) (n F : Nat) (r : R) (hF : n < F) (h1 : ∀ k, k < n → f (st k) = some (.inl (st (k + 1)))) (h2 : f (st n) = some (.inr r)) : lp f F (st 0) = some r := by
  have go : ∀ (j k F : Nat), k + j = n → j < F → lp f F (st k) = some r := by
    intro j
    induction j with
    | zero =>
      intro k F hk hF
      obtain ⟨F, rfl⟩ : ∃ F', F = F' + 1 := ⟨F - 1, by omega⟩
      obtain rfl : k = n := by omega
      rw [lp, h2]; rfl
    | succ j ih =>
      intro k F hk hF
      obtain ⟨F, rfl⟩ : ∃ F', F = F' + 1 := ⟨F - 1, by omega⟩
      rw [lp, h1 k (by omega)]
      exact ih (k + 1) F (by omega) (by omega)
  exact go n 0 F (by omega) (by omega)
/-- a loop whose invariant counts -/
theorem lp_ind {S R : Type} {f : S → Option (S ⊕ R)} {E : R → Prop} (I : Nat → S → Prop) (n : Nat)
    (h : ∀ k s, k ≤ n → I k s → (k < n ∧ ∃ s', f s = some (.inl s') ∧ I (k + 1) s') ∨ ∃ r, f s = some (.inr r) ∧ E r) (F : Nat) (hF : n < F) (s : S) (h0 : I 0 s) : ∃ r, lp f F s = some r ∧ E r := by
  have go : ∀ (j : Nat) (k : Nat) (s : S) (F : Nat), k + j = n → j < F → I k s → ∃ r, lp f F s = some r ∧ E r := by
    intro j
    induction j with
    | zero =>
      intro k s F hk hF hI
      obtain ⟨F, rfl⟩ : ∃ F', F = F' + 1 := ⟨F - 1, by omega⟩
      rcases h k s (by omega) hI with ⟨hl, -⟩ | ⟨r, e, hr⟩
      · omega
      · exact ⟨r, by rw [lp, e]; rfl, hr⟩
    | succ j ih =>
      intro k s F hk hF hI
      obtain ⟨F, rfl⟩ : ∃ F', F = F' + 1 := ⟨F - 1, by omega⟩
      rcases h k s (by omega) hI with ⟨hl, s', e, hI'⟩ | ⟨r, e, hr⟩
      · obtain ⟨r, e2, hr⟩ := ih (k + 1) s' F (by omega) (by omega) hI'
        exact ⟨r, by rw [lp, e]; exact e2, hr⟩
      · exact ⟨r, by rw [lp, e]; rfl, hr⟩
  exact go n 0 s F (by omega) (by omega) h0
/-- n rounds, then the end -/
theorem lp_inv {S R : Type} {f : S → Option (S ⊕ R)} {E : R → Prop} (I : Nat → S → Prop) (n : Nat) {F : Nat} {s : S} (h0 : I 0 s)
    (h1 : ∀ k s, k < n → I k s → ∃ s', f s = some (.inl s') ∧ I (k + 1) s') (h2 : ∀ s, I n s → ∃ r, f s = some (.inr r) ∧ E r) (hF : n < F) : ∃ r, lp f F s = some r ∧ E r := by
  refine lp_ind (E := E) I n (fun k s hk hI => ?_) F hF s h0
  by_cases h : k < n
  · exact Or.inl ⟨h, h1 k s h hI⟩
  · obtain rfl : k = n := by omega
    exact Or.inr (h2 s hI)
theorem j0 : (0 : Int32) = J 0 := rfl
theorem j1 : (1 : Int32) = J 1 := rfl
theorem j2 : (2 : Int32) = J 2 := rfl
theorem j3 : (3 : Int32) = J 3 := rfl
theorem j4 : (4 : Int32) = J 4 := rfl
theorem j5 : (5 : Int32) = J 5 := rfl
theorem j6 : (6 : Int32) = J 6 := rfl
theorem j7 : (7 : Int32) = J 7 := rfl
theorem j8 : (8 : Int32) = J 8 := rfl
theorem j9 : (9 : Int32) = J 9 := rfl
theorem j10 : (10 : Int32) = J 10 := rfl
theorem j11 : (11 : Int32) = J 11 := rfl
theorem j12 : (12 : Int32) = J 12 := rfl
theorem j13 : (13 : Int32) = J 13 := rfl
theorem j14 : (14 : Int32) = J 14 := rfl
theorem j15 : (15 : Int32) = J 15 := rfl
theorem j16 : (16 : Int32) = J 16 := rfl
theorem j17 : (17 : Int32) = J 17 := rfl
theorem j18 : (18 : Int32) = J 18 := rfl
theorem j19 : (19 : Int32) = J 19 := rfl
theorem j20 : (20 : Int32) = J 20 := rfl
theorem j21 : (21 : Int32) = J 21 := rfl
theorem j24 : (24 : Int32) = J 24 := rfl
theorem j25 : (25 : Int32) = J 25 := rfl
theorem j30 : (30 : Int32) = J 30 := rfl
theorem j31 : (31 : Int32) = J 31 := rfl
theorem j32 : (32 : Int32) = J 32 := rfl
theorem j36 : (36 : Int32) = J 36 := rfl
theorem j41 : (41 : Int32) = J 41 := rfl
theorem j48 : (48 : Int32) = J 48 := rfl
theorem j49 : (49 : Int32) = J 49 := rfl
theorem j57 : (57 : Int32) = J 57 := rfl
theorem j59 : (59 : Int32) = J 59 := rfl
theorem j60 : (60 : Int32) = J 60 := rfl
theorem j63 : (63 : Int32) = J 63 := rfl
theorem j64 : (64 : Int32) = J 64 := rfl
theorem j81 : (81 : Int32) = J 81 := rfl
theorem j97 : (97 : Int32) = J 97 := rfl
theorem j99 : (99 : Int32) = J 99 := rfl
theorem j100 : (100 : Int32) = J 100 := rfl
theorem j122 : (122 : Int32) = J 122 := rfl
theorem j255 : (255 : Int32) = J 255 := rfl
theorem j300 : (300 : Int32) = J 300 := rfl
theorem j400 : (400 : Int32) = J 400 := rfl
theorem j500 : (500 : Int32) = J 500 := rfl
theorem j999 : (999 : Int32) = J 999 := rfl
theorem j1000 : (1000 : Int32) = J 1000 := rfl
theorem j24000 : (24000 : Int32) = J 24000 := rfl
