/-! rules: the call -/
def nC (T C : Sp) : Sp := fun a k => if a = 55 ∧ k < 5 then T 55 k else if a = 56 ∧ k < 11 then T 56 k else if a = 57 ∧ k < 11 then T 57 k else C a k
def nD (T D : Sp) : Sp := fun a k => if a = 55 ∧ k = 16 then 0 else if a = 55 ∧ k = 22 then T 3 1 else if a = 55 ∧ k = 23 then T 3 2 else D a k
section ZCALL
variable {C D T : Sp} {n L : Nat} {u u1 u2 : Mem} {y : Nat → Int}
theorem nC_o {a k : Nat} (h : ¬ (a = 55 ∧ k < 5 ∨ (a = 56 ∨ a = 57) ∧ k < 11)) : nC T C a k = C a k := by
  unfold nC
  rw [if_neg (by omega), if_neg (by omega), if_neg (by omega)]
theorem nC_5 {k : Nat} (h : k < 5) : nC T C 55 k = T 55 k := by
  unfold nC
  rw [if_pos ⟨rfl, h⟩]
theorem nC_6 {k : Nat} (h : k < 11) : nC T C 56 k = T 56 k := by
  unfold nC
  rw [if_neg (by omega), if_pos ⟨rfl, h⟩]
theorem nC_7 {k : Nat} (h : k < 11) : nC T C 57 k = T 57 k := by
  unfold nC
  rw [if_neg (by omega), if_neg (by omega), if_pos ⟨rfl, h⟩]
theorem nD_o {a k : Nat} (h : ¬ (a = 55 ∧ (k = 16 ∨ k = 22 ∨ k = 23))) : nD T D a k = D a k := by
  unfold nD
  rw [if_neg (by omega), if_neg (by omega), if_neg (by omega)]
theorem ok_nC (h : OkC C) (d : Dr T) (hw : Wf L n T) (h1 : T 3 1 = 0) (h11 : T 3 11 ≠ 0) : OkC (nC T C) := by
  obtain ⟨c1, c2, c3, c4, c5, c6⟩ := h
  obtain ⟨d1, d2, d3, d4, d5, d6, d7, d8, d9⟩ := d h1
  have e7 := d9 h11
  have e62 := hw.2.2.2.2.2.2.2 4
  refine ⟨c1, c2, c3, c4, c5, fun t ht => ?_, ?_, ?_, ?_, ?_⟩
  · rw [nC_6 ht, nC_7 ht]; exact d2 t ht
  · rw [nC_5 (by omega)]; exact d3
  · rw [nC_5 (by omega)]; exact d4
  · rw [nC_5 (by omega), nC_5 (by omega)]
    rcases e62 with e | e
    · exact Or.inl (d6 e).2
    · exact Or.inr (d7 e (by omega))
  · rw [nC_5 (by omega)]; exact d5
theorem ok_nD (h : OkD C D) (hw : Wf L n T) : OkD C (nD T D) := by
  obtain ⟨c1, c2, c3, c4, c5, c6, c7⟩ := h
  exact ⟨⟨show (0 : Int) ≤ 0 by omega, show (0 : Int) ≤ 500 by omega⟩, c2, hw.2.2.1, hw.2.2.2.1, c5, c6, c7⟩
theorem ok_nCD (h : OkD C D) : OkD (nC T C) D := h
theorem c_rules (I : Inv C D n u) (hn : n < 2147483000) : ∃ r u1 u2 C' D', fX10_rules 0 u = some (r, u1) ∧ fX12_rules 55 u1 = some (r, u2) ∧ Inv2 C' D' (n + 1) u1 u2 := by
  obtain ⟨hS, hC, hD, hM, hA, hQ, hG, hV⟩ := I
  have hd1 := hD.1
  have hd2 := hD.2.1
  obtain ⟨L, eL⟩ : ∃ L : Nat, D 55 16 = (L : Nat) := ⟨(D 55 16).toNat, by omega⟩
  have hL : L ≤ 500 := by omega
  have hy : ∀ k, k < 500 → -128 ≤ D 61 k ∧ D 61 k ≤ 127 := fun k hk => ⟨(hd2 k).1 hk, (hd2 k).2 hk⟩
  have tC : TpC L (D 61) u := ⟨hS, hL, by rw [a_len hA, eL], a_byte hA, hy⟩
  obtain ⟨z, N, q, u1, e1, hw, o1, f1, a11, a31, a32, aS, aF⟩ := ruC tC
  have S1 := f1.SH hS
  have fC : FrC u u1 := fun a k h1 h2 => f1.2.2 a k fun hp => by unfold P10c P6c at hp; omega
  have hM1 := RM_frC hM fC
  obtain ⟨N2, u2, e2, o2, f2, b16, b22, b23, bS, bF⟩ := ruM (y := D 61) S1 hL (by rw [m_55_16 hM1, eL]) (fun k hk => m_61 hM1 k) hy z
  rw [← itA_one N N2 0 (S0 z) o1 o2] at e2 b22 b23 bS bF
  have hdr : Dr (itA L (D 61) N 0 (S0 z)) := dr_it hL N 0 _ (Nat.zero_le L) (wf_S0 z) (dr_S0 z)
  clear o2
  generalize itA L (D 61) N 0 (S0 z) = T at *
  have fM : FrM u1 u2 := ⟨f2.1, fun a k h => f2.2.2 a k fun hp => by unfold P5r at hp; omega, f2.2.1⟩
  have g1 : ∀ a k, 11 ≤ a → mI u1 a k = mI u a k := fun a k h => f1.2.2 a k fun hp => by unfold P10c P6c at hp; omega
  have g2 : ∀ k, mI u1 2 k = mI u 2 k := fun k => f1.2.2 2 k fun hp => by unfold P10c P6c at hp; omega
  have g3 : ∀ k, k ≠ 5 → mI u1 10 k = mI u 10 k := fun k h => f1.2.2 10 k fun hp => by unfold P10c P6c at hp; omega
  have hG1 : ∀ C' : Sp, nG C' = nG C → (∀ k, C' 67 k = C 67 k ∧ C' 68 k = C 68 k ∧ C' 69 k = C 69 k ∧ C' 70 k = C 70 k) → RCg C' u1 := fun C' x1 x2 => RCg_same hG x1 x2 f1.1 (fun a k h => g1 a k (by omega)) (fun a k _ => f1.2.1 a k)
  have hQ1 : RCq C u1 := RCq_eq hQ (fun a k h1 h2 => g1 a k (by omega)) hC.q.2
  have hMD : ∀ a k, PD a k = true → mI u2 a k = J (nD T D a k) := fun a k hp => by
    by_cases c1 : a = 55 ∧ k = 16
    · rw [c1.1, c1.2]; exact b16
    · by_cases c2 : a = 55 ∧ k = 22
      · rw [c2.1, c2.2]; exact b22
      · by_cases c3 : a = 55 ∧ k = 23
        · rw [c3.1, c3.2]; exact b23
        · rw [nD_o (by omega), ← hM1.2 a k hp]
          refine f2.2.2 a k fun hq => ?_
          simp only [PD, Bool.or_eq_true, Bool.and_eq_true, beq_iff_eq, decide_eq_true_eq] at hp
          unfold P5r at hq
          omega
  have hA2 : ∀ C' : Sp, mI u1 7 2 = J (C' 55 0) → mI u1 7 3 = J (C' 55 1) → mI u1 7 4 = J (C' 55 2) → mI u1 7 5 = J (C' 55 3) → mI u1 7 6 = J (C' 55 4) → (∀ k, k < 11 → mI u1 8 k = J (C' 56 k)) → (∀ k, k < 11 → mI u1 9 k = J (C' 57 k)) → C' 55 25 = C 55 25 → C' 55 26 = C 55 26 → RCa C' (nD T D) u1 := fun C' x1 x2 x3 x4 x5 x6 x7 x8 x9 => by
    refine ⟨a11, fun k hk => ?_, a31, a32, x1, x2, x3, x4, x5, x6, x7, ?_, ?_, ?_, fun k hk => ⟨?_, ?_, ?_⟩, fun q hq => ?_⟩
    · rw [g2]
      have x := a_byte hA k hk
      exact x
    · rw [g3 3 (by omega), x8]; exact a_nq hA
    · rw [g3 4 (by omega), x9]; exact a_ng hA
    · rw [g1 _ _ (by omega)]
      have x := a_nt hA
      exact x
    · rw [g1 _ _ (by omega)]
      have x := a_t1 hA k hk
      exact x
    · rw [g1 _ _ (by omega)]
      have x := a_t2 hA k hk
      exact x
    · rw [g1 _ _ (by omega)]
      have x := a_t3 hA k hk
      exact x
    · rw [g1 _ _ (by omega)]
      have x := a_men hA q hq
      exact x
  by_cases c : T 3 1 = 0
  · obtain ⟨y1, y2, y3⟩ := aS c
    obtain ⟨w1, w2⟩ := bS c
    have hA3 : RCa (nC T C) (nD T D) u1 := hA2 (nC T C) (y1 0 (by omega)) (y1 1 (by omega)) (y1 2 (by omega)) (y1 3 (by omega)) (y1 4 (by omega)) (fun k hk => by rw [nC_6 hk]; exact (y2 k hk).1) (fun k hk => by rw [nC_7 hk]; exact (y2 k hk).2) rfl rfl
    have hQ2 : RCq (nC T C) u1 := hQ1
    have hG2 : RCg (nC T C) u1 := hG1 (nC T C) rfl fun k => ⟨rfl, rfl, rfl, rfl⟩
    have hV2 : RCv (nC T C) (n + 1) u1 := RCv_bump hV hn y3 (g1 _ _ (by omega)) (g1 _ _ (by omega))
    have hMC : ∀ a k, PC a k = true → mI u2 a k = J (nC T C a k) := fun a k hp => by
      by_cases c1 : a = 55 ∧ k < 5
      · obtain ⟨rfl, h5⟩ := c1
        rw [nC_5 h5]; exact w1 k h5
      · by_cases c2 : a = 56 ∧ k < 11
        · obtain ⟨rfl, h5⟩ := c2
          rw [nC_6 h5]; exact (w2 k h5).1
        · by_cases c3 : a = 57 ∧ k < 11
          · obtain ⟨rfl, h5⟩ := c3
            rw [nC_7 h5]; exact (w2 k h5).2
          · rw [nC_o (by omega), ← hM1.1 a k hp]
            refine f2.2.2 a k fun hq => ?_
            simp only [PC, Bool.or_eq_true, Bool.and_eq_true, beq_iff_eq, decide_eq_true_eq] at hp
            unfold P5r at hq
            omega
    exact ⟨_, u1, u2, nC T C, nD T D, e1, e2, Inv_mk2 S1 ⟨hA3, hQ2, hG2, hV2⟩ fM ⟨hMC, hMD⟩ (ok_nC hC hdr hw c o1) (ok_nD (ok_nCD hD) hw)⟩
  · have y1 := aF c
    obtain ⟨w1, w2⟩ := bF c
    have hA3 : RCa C (nD T D) u1 := hA2 C (by rw [y1 _ _ (by omega)]; exact a_half hA) (by rw [y1 _ _ (by omega)]; exact a_past hA) (by rw [y1 _ _ (by omega)]; exact a_cd hA) (by rw [y1 _ _ (by omega)]; exact a_cm hA) (by rw [y1 _ _ (by omega)]; exact a_least hA) (fun k hk => by rw [y1 _ _ (by omega)]; exact a_yes hA k hk) (fun k hk => by rw [y1 _ _ (by omega)]; exact a_no hA k hk) rfl rfl
    have hG2 : RCg C u1 := hG1 C rfl fun k => ⟨rfl, rfl, rfl, rfl⟩
    have hV2 : RCv C (n + 1) u1 := RCv_eq hV (by omega) fun a k h => y1 a k (by omega)
    have hMC : ∀ a k, PC a k = true → mI u2 a k = J (C a k) := fun a k hp => by
      rw [← hM1.1 a k hp]
      by_cases c1 : a = 55 ∧ k < 5
      · obtain ⟨rfl, h5⟩ := c1
        exact w1 k h5
      · by_cases c2 : a = 56
        · rw [c2]; exact (w2 k).1
        · by_cases c3 : a = 57
          · rw [c3]; exact (w2 k).2
          · refine f2.2.2 a k fun hq => ?_
            simp only [PC, Bool.or_eq_true, Bool.and_eq_true, beq_iff_eq, decide_eq_true_eq] at hp
            unfold P5r at hq
            omega
    exact ⟨_, u1, u2, C, nD T D, e1, e2, Inv_mk2 S1 ⟨hA3, hQ1, hG2, hV2⟩ fM ⟨hMC, hMD⟩ hC (ok_nD hD hw)⟩
end ZCALL
