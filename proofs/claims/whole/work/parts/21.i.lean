/-! NUMBERS: memory's ints as Int32.ofInt of whole numbers; loops by induction -/
theorem i_lit (n : Nat) : (OfNat.ofNat n : Int32) = Int32.ofInt (OfNat.ofNat n : Int) := by
  first | exact Int32.ofInt_eq_ofNat.symm | exact (Int32.ofInt_eq_ofNat n).symm | exact (Int32.ofInt_ofNat n).symm | rfl | exact Int32.ofNat_eq_ofInt n
theorem i_add (a b : Int) : Int32.ofInt a + Int32.ofInt b = Int32.ofInt (a + b) := (Int32.ofInt_add a b).symm
theorem i_sub (a b : Int) : Int32.ofInt a - Int32.ofInt b = Int32.ofInt (a - b) := (Int32.ofInt_sub a b).symm
theorem i_mul (a b : Int) : Int32.ofInt a * Int32.ofInt b = Int32.ofInt (a * b) := (Int32.ofInt_mul a b).symm
theorem i_neg (a : Int) : - Int32.ofInt a = Int32.ofInt (- a) := (Int32.ofInt_neg a).symm
theorem i_int (a : Int) (h1 : -2147483648 ≤ a) (h2 : a < 2147483648) : (Int32.ofInt a).toInt = a := Int32.toInt_ofInt_of_le h1 h2
theorem i_lt (a b : Int) (h1 : -2147483648 ≤ a) (h2 : a < 2147483648) (h3 : -2147483648 ≤ b) (h4 : b < 2147483648) : (Int32.ofInt a < Int32.ofInt b) = (a < b) := by
  rw [Int32.lt_iff_toInt_lt, i_int a h1 h2, i_int b h3 h4]
theorem i_le (a b : Int) (h1 : -2147483648 ≤ a) (h2 : a < 2147483648) (h3 : -2147483648 ≤ b) (h4 : b < 2147483648) : (Int32.ofInt a ≤ Int32.ofInt b) = (a ≤ b) := by
  rw [Int32.le_iff_toInt_le, i_int a h1 h2, i_int b h3 h4]
theorem i_eq (a b : Int) (h1 : -2147483648 ≤ a) (h2 : a < 2147483648) (h3 : -2147483648 ≤ b) (h4 : b < 2147483648) : (Int32.ofInt a = Int32.ofInt b) = (a = b) := by
  apply propext
  constructor
  · intro h
    have := congrArg Int32.toInt h
    rwa [i_int a h1 h2, i_int b h3 h4] at this
  · intro h; rw [h]
theorem i_self (x : Int32) : Int32.ofInt x.toInt = x := Int32.ofInt_toInt x
theorem i_rng (x : Int32) : -2147483648 ≤ x.toInt ∧ x.toInt < 2147483648 := ⟨Int32.le_toInt x, Int32.toInt_lt x⟩
theorem i_nat (a : Int) (h1 : -2147483648 ≤ a) (h2 : a < 2147483648) : (Int32.ofInt a).toNatClampNeg = a.toNat := by
  show (Int32.ofInt a).toInt.toNat = _
  rw [i_int a h1 h2]
theorem i_inb (a : Int) (n : Nat) (h1 : 0 ≤ a) (h2 : a < n) (h3 : n < 2147483648) : inb (Int32.ofInt a) n = true := by
  unfold inb
  rw [i_int a (by omega) (by omega)]
  simp [h1, h2]
/-- a loop whose invariant counts -/
theorem lp_ind {S R : Type} {f : S → Option (S ⊕ R)} {E : R → Prop} (I : Nat → S → Prop) (n : Nat)
    (h : ∀ k s, k ≤ n → I k s → (k < n ∧ ∃ s', f s = some (.inl s') ∧ I (k + 1) s') ∨ ∃ r, f s = some (.inr r) ∧ E r) (F : Nat) (hF : n < F) (s : S) (h0 : I 0 s) : ∃ r, lp f F s = some r ∧ E r := by
  have go : ∀ (j : Nat) (k : Nat) (s : S) (F : Nat), k + j = n → j < F → I k s → ∃ r, lp f F s = some r ∧ E r := by
    intro j
    induction j with
    | zero =>
      intro k s F hk hF hI
      obtain ⟨F, rfl⟩ : ∃ F', F = F' + 1 := ⟨F - 1, by omega⟩
      rcases h k s (by omega) hI with ⟨hl, -⟩ | ⟨r, e, hr⟩
      · omega
      · exact ⟨r, by rw [lp, e]; rfl, hr⟩
    | succ j ih =>
      intro k s F hk hF hI
      obtain ⟨F, rfl⟩ : ∃ F', F = F' + 1 := ⟨F - 1, by omega⟩
      rcases h k s (by omega) hI with ⟨hl, s', e, hI'⟩ | ⟨r, e, hr⟩
      · obtain ⟨r, e2, hr⟩ := ih (k + 1) s' F (by omega) (by omega) hI'
        exact ⟨r, by rw [lp, e]; exact e2, hr⟩
      · exact ⟨r, by rw [lp, e]; rfl, hr⟩
  exact go n 0 s F (by omega) (by omega) h0
