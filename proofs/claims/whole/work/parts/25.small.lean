/-! longs; what cells hold, a row each; the small questions -/
def K (z : Int) : Int64 := Int64.ofInt z
theorem k_int (a : Int) (h1 : -9223372036854775808 ≤ a) (h2 : a < 9223372036854775808) : (K a).toInt = a := Int64.toInt_ofInt_of_le h1 h2
theorem k_of (z : Int) (h1 : -2147483648 ≤ z) (h2 : z < 2147483648) : Int32.toInt64 (J z) = K z := by
  apply Int64.toInt.inj
  rw [Int32.toInt_toInt64, j_int z h1 h2, k_int z (by omega) (by omega)]
theorem k_add (a b : Int) : K a + K b = K (a + b) := (Int64.ofInt_add a b).symm
theorem k_sub (a b : Int) : K a - K b = K (a - b) := (Int64.ofInt_sub a b).symm
theorem k_mul (a b : Int) : K a * K b = K (a * b) := (Int64.ofInt_mul a b).symm
theorem k_neg (a : Int) : - K a = K (- a) := (Int64.ofInt_neg a).symm
theorem k_lt (a b : Int) (h1 : -9223372036854775808 ≤ a) (h2 : a < 9223372036854775808) (h3 : -9223372036854775808 ≤ b) (h4 : b < 9223372036854775808) : (K a < K b) ↔ (a < b) := by
  rw [Int64.lt_iff_toInt_lt, k_int a h1 h2, k_int b h3 h4]
theorem k_eq (a b : Int) (h1 : -9223372036854775808 ≤ a) (h2 : a < 9223372036854775808) (h3 : -9223372036854775808 ≤ b) (h4 : b < 9223372036854775808) : (K a = K b) ↔ (a = b) := by
  constructor
  · intro h
    have := congrArg Int64.toInt h
    rwa [k_int a h1 h2, k_int b h3 h4] at this
  · intro h; rw [h]
theorem lg_lt (a b : Int) (h1 : -9223372036854775808 ≤ a) (h2 : a < 9223372036854775808) (h3 : -9223372036854775808 ≤ b) (h4 : b < 9223372036854775808) : (lg_cmp (K a) (K b) < 0) ↔ (a < b) := (lg_cmp_lt _ _).trans (k_lt a b h1 h2 h3 h4)
theorem lg_gt (a b : Int) (h1 : -9223372036854775808 ≤ a) (h2 : a < 9223372036854775808) (h3 : -9223372036854775808 ≤ b) (h4 : b < 9223372036854775808) : (0 < lg_cmp (K a) (K b)) ↔ (b < a) := (lg_cmp_gt _ _).trans (k_lt b a h3 h4 h1 h2)
theorem lg_eq (a b : Int) (h1 : -9223372036854775808 ≤ a) (h2 : a < 9223372036854775808) (h3 : -9223372036854775808 ≤ b) (h4 : b < 9223372036854775808) : (lg_cmp (K a) (K b) = 0) ↔ (a = b) := (lg_cmp_eq _ _).trans (k_eq a b h1 h2 h3 h4)
theorem jn1 (k : Nat) : ((k + 1 : Nat) : Int) = (k : Int) + 1 := by omega
def B (p : Prop) [Decidable p] : Int32 := if p then 1 else 0
theorem b_0 (p : Prop) [Decidable p] : (B p = 0) ↔ ¬ p := by
  unfold B
  by_cases h : p
  · rw [if_pos h]; exact ⟨fun q => absurd q (by decide), fun q => absurd h q⟩
  · rw [if_neg h]; exact ⟨fun _ => h, fun _ => rfl⟩
theorem b_J0 (p : Prop) [Decidable p] : (B p = J 0) ↔ ¬ p := b_0 p
theorem b_J1 (p : Prop) [Decidable p] : (B p = J 1) ↔ p := by
  unfold B
  by_cases h : p
  · rw [if_pos h]; exact ⟨fun _ => h, fun _ => rfl⟩
  · rw [if_neg h]; exact ⟨fun q => absurd q (by decide), fun q => absurd q h⟩
theorem b_retZ (p : Prop) [Decidable p] : retZ (B p) = some (B p) := by
  unfold retZ
  rw [if_pos]
  unfold B
  by_cases h : p
  · rw [if_pos h]; exact Or.inr rfl
  · rw [if_neg h]; exact Or.inl rfl
theorem b_congr {p q : Prop} [Decidable p] [Decidable q] (h : p ↔ q) : B p = B q := by
  unfold B
  by_cases hp : p
  · rw [if_pos hp, if_pos (h.mp hp)]
  · rw [if_neg hp, if_neg fun hq => hp (h.mpr hq)]
theorem b_some {p q : Prop} [Decidable p] [Decidable q] (h : p ↔ q) : some (B p) = some (B q) := by rw [b_congr h]
theorem b_t {p : Prop} [Decidable p] (h : p) : B p = 1 := if_pos h
theorem b_f {p : Prop} [Decidable p] (h : ¬ p) : B p = 0 := if_neg h
theorem k0 : (0 : Int64) = K 0 := rfl
theorem k1 : (1 : Int64) = K 1 := rfl
theorem k2 : (2 : Int64) = K 2 := rfl
theorem k3 : (3 : Int64) = K 3 := rfl
theorem k10 : (10 : Int64) = K 10 := rfl
theorem k19 : (19 : Int64) = K 19 := rfl
theorem k20 : (20 : Int64) = K 20 := rfl
theorem k30 : (30 : Int64) = K 30 := rfl
theorem k40 : (40 : Int64) = K 40 := rfl
theorem k999 : (999 : Int64) = K 999 := rfl
section RD
variable {C D : Sp} {u : Mem}
theorem a_len (h : RCa C D u) : mI u 1 1 = J (D 55 16) := h.1
theorem a_byte (h : RCa C D u) : ∀ k, k < 500 → mI u 2 k = J (D 61 k) := h.2.1
theorem a_fk (h : RCa C D u) : mI u 3 1 = J (D 55 22) := h.2.2.1
theorem a_fp (h : RCa C D u) : mI u 3 2 = J (D 55 23) := h.2.2.2.1
theorem a_half (h : RCa C D u) : mI u 7 2 = J (C 55 0) := h.2.2.2.2.1
theorem a_past (h : RCa C D u) : mI u 7 3 = J (C 55 1) := h.2.2.2.2.2.1
theorem a_cd (h : RCa C D u) : mI u 7 4 = J (C 55 2) := h.2.2.2.2.2.2.1
theorem a_cm (h : RCa C D u) : mI u 7 5 = J (C 55 3) := h.2.2.2.2.2.2.2.1
theorem a_least (h : RCa C D u) : mI u 7 6 = J (C 55 4) := h.2.2.2.2.2.2.2.2.1
theorem a_yes (h : RCa C D u) : ∀ k, k < 11 → mI u 8 k = J (C 56 k) := h.2.2.2.2.2.2.2.2.2.1
theorem a_no (h : RCa C D u) : ∀ k, k < 11 → mI u 9 k = J (C 57 k) := h.2.2.2.2.2.2.2.2.2.2.1
theorem a_nq (h : RCa C D u) : mI u 10 3 = J (C 55 25) := h.2.2.2.2.2.2.2.2.2.2.2.1
theorem a_ng (h : RCa C D u) : mI u 10 4 = J (C 55 26) := h.2.2.2.2.2.2.2.2.2.2.2.2.1
theorem a_nt (h : RCa C D u) : mI u 45 3 = J (D 55 27) := h.2.2.2.2.2.2.2.2.2.2.2.2.2.1
theorem a_t1 (h : RCa C D u) : ∀ k, k < 30 → mI u 46 k = J (D 71 k) := fun k hk => (h.2.2.2.2.2.2.2.2.2.2.2.2.2.2.1 k hk).1
theorem a_t2 (h : RCa C D u) : ∀ k, k < 30 → mI u 47 k = J (D 72 k) := fun k hk => (h.2.2.2.2.2.2.2.2.2.2.2.2.2.2.1 k hk).2.1
theorem a_t3 (h : RCa C D u) : ∀ k, k < 30 → mI u 48 k = J (D 73 k) := fun k hk => (h.2.2.2.2.2.2.2.2.2.2.2.2.2.2.1 k hk).2.2
theorem a_men (h : RCa C D u) : ∀ q, q < 20 → mI u 50 q = J (D 84 q) := h.2.2.2.2.2.2.2.2.2.2.2.2.2.2.2
theorem m_55_0 (h : RM C D u) : mI u 55 0 = J (C 55 0) := h.1 55 0 rfl
theorem m_55_1 (h : RM C D u) : mI u 55 1 = J (C 55 1) := h.1 55 1 rfl
theorem m_55_2 (h : RM C D u) : mI u 55 2 = J (C 55 2) := h.1 55 2 rfl
theorem m_55_3 (h : RM C D u) : mI u 55 3 = J (C 55 3) := h.1 55 3 rfl
theorem m_55_4 (h : RM C D u) : mI u 55 4 = J (C 55 4) := h.1 55 4 rfl
theorem m_55_25 (h : RM C D u) : mI u 55 25 = J (C 55 25) := h.1 55 25 rfl
theorem m_55_26 (h : RM C D u) : mI u 55 26 = J (C 55 26) := h.1 55 26 rfl
theorem m_55_16 (h : RM C D u) : mI u 55 16 = J (D 55 16) := h.2 55 16 rfl
theorem m_55_22 (h : RM C D u) : mI u 55 22 = J (D 55 22) := h.2 55 22 rfl
theorem m_55_23 (h : RM C D u) : mI u 55 23 = J (D 55 23) := h.2 55 23 rfl
theorem m_55_27 (h : RM C D u) : mI u 55 27 = J (D 55 27) := h.2 55 27 rfl
theorem m_56 (h : RM C D u) (k : Nat) : mI u 56 k = J (C 56 k) := h.1 56 k rfl
theorem m_57 (h : RM C D u) (k : Nat) : mI u 57 k = J (C 57 k) := h.1 57 k rfl
theorem m_63 (h : RM C D u) (k : Nat) : mI u 63 k = J (C 63 k) := h.1 63 k rfl
theorem m_64 (h : RM C D u) (k : Nat) : mI u 64 k = J (C 64 k) := h.1 64 k rfl
theorem m_65 (h : RM C D u) (k : Nat) : mI u 65 k = J (C 65 k) := h.1 65 k rfl
theorem m_66 (h : RM C D u) (k : Nat) : mI u 66 k = J (C 66 k) := h.1 66 k rfl
theorem m_67 (h : RM C D u) (k : Nat) : mI u 67 k = J (C 67 k) := h.1 67 k rfl
theorem m_68 (h : RM C D u) (k : Nat) : mI u 68 k = J (C 68 k) := h.1 68 k rfl
theorem m_69 (h : RM C D u) (k : Nat) : mI u 69 k = J (C 69 k) := h.1 69 k rfl
theorem m_70 (h : RM C D u) (k : Nat) : mI u 70 k = J (C 70 k) := h.1 70 k rfl
theorem m_61 (h : RM C D u) (k : Nat) : mI u 61 k = J (D 61 k) := h.2 61 k rfl
theorem m_71 (h : RM C D u) (k : Nat) : mI u 71 k = J (D 71 k) := h.2 71 k rfl
theorem m_72 (h : RM C D u) (k : Nat) : mI u 72 k = J (D 72 k) := h.2 72 k rfl
theorem m_73 (h : RM C D u) (k : Nat) : mI u 73 k = J (D 73 k) := h.2 73 k rfl
theorem m_84 (h : RM C D u) (k : Nat) : mI u 84 k = J (D 84 k) := h.2 84 k rfl
theorem q_0 (h : RCq C u) : ∀ q, q < nQ C → mI u (14 + q) 0 = J (C 63 q) := fun q hq => (h.1 q hq).1
theorem q_1 (h : RCq C u) : ∀ q, q < nQ C → mI u (14 + q) 1 = J (C 64 q) := fun q hq => (h.1 q hq).2.1
theorem q_2 (h : RCq C u) : ∀ q, q < nQ C → mI u (14 + q) 2 = J (C 65 q) := fun q hq => (h.1 q hq).2.2.1
theorem q_3 (h : RCq C u) : ∀ q, q < nQ C → mI u (14 + q) 3 = J (C 66 q) := fun q hq => (h.1 q hq).2.2.2.1
theorem q_4 (h : RCq C u) : ∀ q, q < nQ C → mI u (14 + q) 4 = J (cntQ C q) := fun q hq => (h.1 q hq).2.2.2.2
end RD
section SM
variable {β : Type} {f : Int32 → Option β} {u : Mem} {z a b c : Int}
theorem in_b (h1 : -9223372036854775808 ≤ a) (h2 : a < 9223372036854775808) (h3 : -9223372036854775808 ≤ b) (h4 : b < 9223372036854775808) (h5 : -9223372036854775808 ≤ c) (h6 : c < 9223372036854775808) : (fX12_in (K a) (K b) (K c) u).bind f = f (B (b ≤ a ∧ a ≤ c)) := by
  unfold fX12_in
  by_cases q1 : a < b
  · rw [if_pos ((lg_lt a b h1 h2 h3 h4).mpr q1), b_f (by omega)]; rfl
  · rw [if_neg fun q => q1 ((lg_lt a b h1 h2 h3 h4).mp q)]
    by_cases q2 : c < a
    · rw [if_pos ((lg_gt a c h1 h2 h5 h6).mpr q2), b_f (by omega)]; rfl
    · rw [if_neg fun q => q2 ((lg_gt a c h1 h2 h5 h6).mp q), b_t (by omega)]; rfl
theorem b_bind {p : Prop} [Decidable p] {m : Option Int32} (h : m = some (B p)) : m.bind f = f (B p) := by rw [h]; rfl
theorem dayM_b (h1 : -2147483648 ≤ z) (h2 : z < 2147483648) : (fX12_isDay (J z) u).bind f = f (B (0 ≤ z ∧ z ≤ 999)) := by
  refine b_bind ?_
  unfold fX12_isDay
  rw [k_of z h1 h2, k0, k999, in_b (by omega) (by omega) (by omega) (by omega) (by omega) (by omega), b_retZ]
theorem gsrM_b (h1 : -2147483648 ≤ z) (h2 : z < 2147483648) : (fX12_isGuesser (J z) u).bind f = f (B (0 ≤ z ∧ z ≤ 19)) := by
  refine b_bind ?_
  unfold fX12_isGuesser
  rw [k_of z h1 h2, k0, k19, in_b (by omega) (by omega) (by omega) (by omega) (by omega) (by omega), b_retZ]
theorem isqM_b {C D : Sp} (hS : SH u) (hM : RM C D u) (hC : 0 ≤ C 55 25 ∧ C 55 25 ≤ 20) (h1 : -2147483648 ≤ z) (h2 : z < 2147483648) : (fX12_isQuestion 55 (J z) u).bind f = f (B (0 ≤ z ∧ z ≤ C 55 25 - 1)) := by
  refine b_bind ?_
  unfold fX12_isQuestion
  rw [gi_55 hS, m_55_25 hM, k_of z h1 h2, k_of _ (by omega) (by omega), k0, k1, k_sub, in_b (by omega) (by omega) (by omega) (by omega) (by omega) (by omega), b_retZ]
theorem b_ite (p : Prop) [Decidable p] : (if p then some (1 : Int32) else some (0 : Int32)) = some (B p) := by
  unfold B
  by_cases h : p
  · rw [if_pos h, if_pos h]
  · rw [if_neg h, if_neg h]
theorem b_ite2 (p q : Prop) [Decidable p] [Decidable q] : (if p then some (0 : Int32) else if q then some (1 : Int32) else some (0 : Int32)) = some (B (¬ p ∧ q)) := by
  by_cases h : p
  · rw [if_pos h, b_f (fun x => x.1 h)]
  · rw [if_neg h, b_ite]; exact b_some ⟨fun x => ⟨h, x⟩, fun x => x.2⟩
theorem dayC_b (h1 : -2147483648 ≤ z) (h2 : z < 2147483648) : (fX10_isDay (J z) u).bind f = f (B (0 ≤ z ∧ z ≤ 999)) := by
  refine b_bind ?_
  unfold fX10_isDay
  rw [b_ite2]; refine b_some ?_
  rw [j0, j1000, j_lt z 0 h1 h2 (by omega) (by omega), j_lt z 1000 h1 h2 (by omega) (by omega)]
  omega
theorem gsrC_b (h1 : -2147483648 ≤ z) (h2 : z < 2147483648) : (fX10_isGuesser (J z) u).bind f = f (B (0 ≤ z ∧ z ≤ 19)) := by
  refine b_bind ?_
  unfold fX10_isGuesser
  rw [b_ite2]; refine b_some ?_
  rw [j0, j20, j_lt z 0 h1 h2 (by omega) (by omega), j_lt z 20 h1 h2 (by omega) (by omega)]
  omega
theorem tenC_b (h1 : -2147483648 ≤ z) (h2 : z < 2147483648) : (fX10_isTenth (J z) u).bind f = f (B (0 ≤ z ∧ z ≤ 10)) := by
  refine b_bind ?_
  unfold fX10_isTenth
  rw [b_ite2]; refine b_some ?_
  rw [j0, j11, j_lt z 0 h1 h2 (by omega) (by omega), j_lt z 11 h1 h2 (by omega) (by omega)]
  omega
theorem zooC_b (h1 : -2147483648 ≤ z) (h2 : z < 2147483648) : (fX10_isZeroOrOne (J z) u).bind f = f (B (0 ≤ z ∧ z ≤ 1)) := by
  refine b_bind ?_
  unfold fX10_isZeroOrOne
  rw [j0, j1]
  by_cases q0 : z = 0
  · rw [if_pos (by rw [q0]), b_t (by omega)]; rfl
  · rw [if_neg fun q => q0 ((j_eq z 0 h1 h2 (by omega) (by omega)).mp q)]
    by_cases q1 : z = 1
    · rw [if_pos (by rw [q1]), b_t (by omega)]; rfl
    · rw [if_neg fun q => q1 ((j_eq z 1 h1 h2 (by omega) (by omega)).mp q), b_f (by omega)]; rfl
theorem isqC_b {C D : Sp} (hS : SH u) (hA : RCa C D u) (hC : 0 ≤ C 55 25 ∧ C 55 25 ≤ 20) (h1 : -2147483648 ≤ z) (h2 : z < 2147483648) : (fX0_hasQuestion 10 (J z) u).bind f = f (B (0 ≤ z ∧ z ≤ C 55 25 - 1)) := by
  refine b_bind ?_
  unfold fX0_hasQuestion
  rw [gi_10 hS, a_nq hA, b_ite2]; refine b_some ?_
  rw [j0, j_lt z 0 h1 h2 (by omega) (by omega), j_lt z _ h1 h2 (by omega) (by omega)]
  omega
end SM
