/-! what one holds -/
theorem FU_gt {n : Nat} (h : n < 100000) : n < FU := h
theorem lastD_some {C : Sp} {g q : Nat} {d : Int} {i : Nat} : ∀ m : Nat, lastD C g q d m = some i → i < m ∧ C 67 i = g ∧ C 68 i = q ∧ C 69 i ≤ d ∧ ∀ k, i < k → k < m → ¬ (C 67 k = g ∧ C 68 k = q ∧ C 69 k ≤ d) := by
  intro m
  induction m with
  | zero => intro h; cases h
  | succ m ih =>
    intro h
    rw [lastD] at h
    by_cases hm : C 67 m = g ∧ C 68 m = q ∧ C 69 m ≤ d
    · rw [if_pos hm] at h
      cases h
      exact ⟨by omega, hm.1, hm.2.1, hm.2.2, fun k h1 h2 => by omega⟩
    · rw [if_neg hm] at h
      obtain ⟨h1, h2, h3, h4, h5⟩ := ih h
      refine ⟨by omega, h2, h3, h4, fun k hk1 hk2 => ?_⟩
      by_cases hkm : k = m
      · subst hkm; exact hm
      · exact h5 k hk1 (by omega)
theorem lastD_none {C : Sp} {g q : Nat} {d : Int} : ∀ m : Nat, lastD C g q d m = none ↔ ∀ k, k < m → ¬ (C 67 k = g ∧ C 68 k = q ∧ C 69 k ≤ d) := by
  intro m
  induction m with
  | zero => exact ⟨fun _ k hk => by omega, fun _ => rfl⟩
  | succ m ih =>
    rw [lastD]
    by_cases hm : C 67 m = g ∧ C 68 m = q ∧ C 69 m ≤ d
    · rw [if_pos hm]
      exact ⟨fun h => absurd h (by simp), fun h => absurd hm (h m (by omega))⟩
    · rw [if_neg hm, ih]
      refine ⟨fun h k hk => ?_, fun h k hk => h k (by omega)⟩
      by_cases hkm : k = m
      · subst hkm; exact hm
      · exact h k (by omega)
theorem lastD_skip {C : Sp} {g q : Nat} {d : Int} {i : Nat} : ∀ m : Nat, i ≤ m → (∀ k, i ≤ k → k < m → ¬ (C 67 k = g ∧ C 68 k = q ∧ C 69 k ≤ d)) → lastD C g q d m = lastD C g q d i := by
  intro m
  induction m with
  | zero => intro h _; have : i = 0 := by omega
            subst this; rfl
  | succ m ih =>
    intro h1 h2
    by_cases hi : i = m + 1
    · subst hi; rfl
    · rw [lastD, if_neg (h2 m (by omega) (by omega))]
      exact ih (by omega) fun k hk1 hk2 => h2 k hk1 (by omega)
theorem lastD_at {C : Sp} {g q : Nat} {d : Int} {i m : Nat} (h1 : i < m) (h2 : C 67 i = g ∧ C 68 i = q ∧ C 69 i ≤ d) (h3 : ∀ k, i < k → k < m → ¬ (C 67 k = g ∧ C 68 k = q ∧ C 69 k ≤ d)) : lastD C g q d m = some i := by
  rw [lastD_skip (i := i + 1) m (by omega) fun k hk1 hk2 => h3 k (by omega) hk2, lastD, if_pos h2]
theorem hl_rng {C : Sp} (hC : OkC C) (g q : Nat) (d : Int) {m : Nat} (hm : m ≤ nG C) : -1 ≤ tenOf C (lastD C g q d m) ∧ tenOf C (lastD C g q d m) ≤ 10 := by
  cases h : lastD C g q d m with
  | none => exact ⟨Int.le_refl _, by show (-1 : Int) ≤ 10; omega⟩
  | some i =>
    have := hC.2.2.2.1 i (by have := (lastD_some _ h).1; omega)
    unfold OkG at this
    show -1 ≤ C 70 i ∧ C 70 i ≤ 10
    omega
theorem okg {C : Sp} (hC : OkC C) {k : Nat} (hk : k < nG C) : (0 ≤ C 67 k ∧ C 67 k < 20) ∧ (0 ≤ C 68 k ∧ C 68 k < C 55 25 ∧ C 68 k < 20) ∧ (0 ≤ C 69 k ∧ C 69 k ≤ 999) ∧ (0 ≤ C 70 k ∧ C 70 k ≤ 10) ∧ C 63 (C 68 k).toNat ≤ C 69 k ∧ C 69 k ≤ C 64 (C 68 k).toNat := by
  have h0 := hC.1
  have hq := hC.q
  have ok := hC.2.2.2.1 k hk
  unfold OkG at ok
  have o2 := (hC.2.2.1 (C 68 k).toNat (by omega)).1
  omega
theorem okq {C : Sp} (hC : OkC C) {q : Nat} (hq : q < nQ C) : (0 ≤ C 63 q ∧ C 63 q ≤ C 64 q ∧ C 64 q ≤ 999 ∧ C 64 q - C 63 q < 60) ∧ (0 ≤ C 65 q ∧ C 65 q ≤ 3) ∧ (-1 ≤ C 66 q ∧ C 66 q ≤ 999) ∧ (C 65 q < 2 → C 63 q ≤ C 66 q) := by
  obtain ⟨o1, o2, o3, o4⟩ := hC.2.2.1 q hq
  refine ⟨o1, o2, ?_, fun h => (o3 h).1⟩
  by_cases h : C 65 q < 2
  · have := o3 h; omega
  · have := o4 (by omega); omega
section HELD
variable {C D : Sp} {n : Nat} {u : Mem} {β : Type} {g q : Nat} {d : Int}
theorem heldM (hS : SH u) (hC : OkC C) (hM : RM C D u) (hg : g < 20) (hq : q < 20) (h1 : -2147483648 ≤ d) (h2 : d < 2147483648) : fX12_heldOn 55 (J g) (J q) (J d) u = some (J (hl C g q d)) := by
  have hgg := hC.g
  have h := lp_for (f := fun s : Int32 × Int32 => bX12_heldOn_6 55 (J g) (J q) (J d) u s.1 s.2) (fun k => (J (tenOf C (lastD C g q d k)), J (k : Int))) (nG C) FU (J (hl C g q d)) (FU_gt (by omega)) (fun k hk => ?_) ?_
  · have e : lp (fun s : Int32 × Int32 => bX12_heldOn_6 55 (J g) (J q) (J d) u s.1 s.2) FU ((-1 : Int32), (0 : Int32)) = some (J (hl C g q d)) := h
    unfold fX12_heldOn
    rw [e]
    rfl
  · have ok := okg hC hk
    have hr := hl_rng hC g q d (m := k) (by omega)
    show bX12_heldOn_6 55 (J g) (J q) (J d) u _ _ = _
    unfold bX12_heldOn_6
    rw [lastD]
    by_cases w1 : C 67 k = g
    · by_cases w2 : C 68 k = q
      · by_cases w3 : d < C 69 k
        · rw [if_neg (by omega)]
          simp (disch := first | assumption | (simp only [SH_sI, SH_sL]; assumption) | omega) only [↓s_nm, ↓s_bnd2, ↓s_some, ↓s_suml, ↓s_sumr, ↓s_nz, ↓gi_q, ↓pi_q, ↓ck_q, ↓gi_gs, ↓gr_gs, ↓g_55_10, ↓g_55_11, ↓g_55_12, ↓g_55_13, ↓g_55_14, ↓g_55_15, ↓g_55_24, ↓g_55_28, ↓g_55_29, ↓g_55_30, ↓g_55_31, ↓g_55_32, ↓g_55_33, ↓g_55_34, ↓g_55_35, ↓g_55_36, ↓g_55_37, ↓g_55_38, ↓g_55_39, ↓g_55_40, ↓g_55_41, ↓g_55_42, ↓g_55_43, ↓g_55_44, ↓g_55_47, ↓g_55_48, ↓g_55_49, ↓g_55_50, ↓g_55_51, ↓g_55_52, ↓g_55_53, ↓g_55_54, ↓al_56, ↓al_57, ↓al_58, ↓al_59, ↓al_61, ↓al_62, ↓al_63, ↓al_64, ↓al_65, ↓al_66, ↓al_67, ↓al_68, ↓al_69, ↓al_70, ↓al_71, ↓al_72, ↓al_73, ↓al_74, ↓al_75, ↓al_76, ↓al_77, ↓al_78, ↓al_79, ↓al_80, ↓al_81, ↓al_82, ↓al_83, ↓al_84, ↓al_85, ↓al_86, ↓al_87, ↓as_56, ↓as_57, ↓as_58, ↓as_59, ↓as_61, ↓as_62, ↓as_63, ↓as_64, ↓as_65, ↓as_66, ↓as_67, ↓as_68, ↓as_69, ↓as_70, ↓as_71, ↓as_72, ↓as_73, ↓as_74, ↓as_75, ↓as_76, ↓as_77, ↓as_78, ↓as_79, ↓as_80, ↓as_81, ↓as_82, ↓as_83, ↓as_84, ↓as_85, ↓as_86, ↓as_87, ↓gi_55, ↓pi_55, ↓ck_55, ↓gi_60, ↓pi_60, ↓ck_60, j0, j1, j2, j3, j4, j5, j6, j7, j8, j9, j10, j11, j12, j13, j14, j15, j16, j17, j18, j19, j20, j21, j24, j25, j30, j31, j32, j36, j41, j48, j49, j57, j59, j60, j63, j64, j81, j97, j99, j100, j122, j255, j300, j400, j500, j999, j1000, j24000, j_add, j_sub, j_mul, j_neg, j_lt, j_le, j_eq, mI_sI, mR_sI, mN_sI, mI_sR, mR_sR, mN_sR, Int.toNat_natCast, true_and, and_true, false_and, and_false, if_true, if_false, reduceIte, Nat.reduceEqDiff, Option.some.injEq, Prod.mk.injEq, k_of, k_add, k_sub, k_mul, k_neg, lg_lt, lg_gt, lg_eq, b_0, b_J0, b_J1, b_retZ, k0, k1, k2, k3, k10, k19, k20, k30, k40, k999, ↓in_b, ↓dayM_b, ↓gsrM_b, ↓isqM_b, Int.add_sub_cancel, not_true, not_false_eq_true, jn1, m_55_0 hM, m_55_1 hM, m_55_2 hM, m_55_3 hM, m_55_4 hM, m_55_25 hM, m_55_26 hM, m_55_16 hM, m_55_22 hM, m_55_23 hM, m_55_27 hM, m_56 hM, m_57 hM, m_63 hM, m_64 hM, m_65 hM, m_66 hM, m_67 hM, m_68 hM, m_69 hM, m_70 hM, m_61 hM, m_71 hM, m_72 hM, m_73 hM, m_84 hM, show (k : Int) < C 55 26 by omega, w1, w2, w3]
        · rw [if_pos (by omega)]
          simp (disch := first | assumption | (simp only [SH_sI, SH_sL]; assumption) | omega) only [↓s_nm, ↓s_bnd2, ↓s_some, ↓s_suml, ↓s_sumr, ↓s_nz, ↓gi_q, ↓pi_q, ↓ck_q, ↓gi_gs, ↓gr_gs, ↓g_55_10, ↓g_55_11, ↓g_55_12, ↓g_55_13, ↓g_55_14, ↓g_55_15, ↓g_55_24, ↓g_55_28, ↓g_55_29, ↓g_55_30, ↓g_55_31, ↓g_55_32, ↓g_55_33, ↓g_55_34, ↓g_55_35, ↓g_55_36, ↓g_55_37, ↓g_55_38, ↓g_55_39, ↓g_55_40, ↓g_55_41, ↓g_55_42, ↓g_55_43, ↓g_55_44, ↓g_55_47, ↓g_55_48, ↓g_55_49, ↓g_55_50, ↓g_55_51, ↓g_55_52, ↓g_55_53, ↓g_55_54, ↓al_56, ↓al_57, ↓al_58, ↓al_59, ↓al_61, ↓al_62, ↓al_63, ↓al_64, ↓al_65, ↓al_66, ↓al_67, ↓al_68, ↓al_69, ↓al_70, ↓al_71, ↓al_72, ↓al_73, ↓al_74, ↓al_75, ↓al_76, ↓al_77, ↓al_78, ↓al_79, ↓al_80, ↓al_81, ↓al_82, ↓al_83, ↓al_84, ↓al_85, ↓al_86, ↓al_87, ↓as_56, ↓as_57, ↓as_58, ↓as_59, ↓as_61, ↓as_62, ↓as_63, ↓as_64, ↓as_65, ↓as_66, ↓as_67, ↓as_68, ↓as_69, ↓as_70, ↓as_71, ↓as_72, ↓as_73, ↓as_74, ↓as_75, ↓as_76, ↓as_77, ↓as_78, ↓as_79, ↓as_80, ↓as_81, ↓as_82, ↓as_83, ↓as_84, ↓as_85, ↓as_86, ↓as_87, ↓gi_55, ↓pi_55, ↓ck_55, ↓gi_60, ↓pi_60, ↓ck_60, j0, j1, j2, j3, j4, j5, j6, j7, j8, j9, j10, j11, j12, j13, j14, j15, j16, j17, j18, j19, j20, j21, j24, j25, j30, j31, j32, j36, j41, j48, j49, j57, j59, j60, j63, j64, j81, j97, j99, j100, j122, j255, j300, j400, j500, j999, j1000, j24000, j_add, j_sub, j_mul, j_neg, j_lt, j_le, j_eq, mI_sI, mR_sI, mN_sI, mI_sR, mR_sR, mN_sR, Int.toNat_natCast, true_and, and_true, false_and, and_false, if_true, if_false, reduceIte, Nat.reduceEqDiff, Option.some.injEq, Prod.mk.injEq, k_of, k_add, k_sub, k_mul, k_neg, lg_lt, lg_gt, lg_eq, b_0, b_J0, b_J1, b_retZ, k0, k1, k2, k3, k10, k19, k20, k30, k40, k999, ↓in_b, ↓dayM_b, ↓gsrM_b, ↓isqM_b, Int.add_sub_cancel, not_true, not_false_eq_true, jn1, m_55_0 hM, m_55_1 hM, m_55_2 hM, m_55_3 hM, m_55_4 hM, m_55_25 hM, m_55_26 hM, m_55_16 hM, m_55_22 hM, m_55_23 hM, m_55_27 hM, m_56 hM, m_57 hM, m_63 hM, m_64 hM, m_65 hM, m_66 hM, m_67 hM, m_68 hM, m_69 hM, m_70 hM, m_61 hM, m_71 hM, m_72 hM, m_73 hM, m_84 hM, show (k : Int) < C 55 26 by omega, w1, w2, w3, tenOf]
      · rw [if_neg (by omega)]
        simp (disch := first | assumption | (simp only [SH_sI, SH_sL]; assumption) | omega) only [↓s_nm, ↓s_bnd2, ↓s_some, ↓s_suml, ↓s_sumr, ↓s_nz, ↓gi_q, ↓pi_q, ↓ck_q, ↓gi_gs, ↓gr_gs, ↓g_55_10, ↓g_55_11, ↓g_55_12, ↓g_55_13, ↓g_55_14, ↓g_55_15, ↓g_55_24, ↓g_55_28, ↓g_55_29, ↓g_55_30, ↓g_55_31, ↓g_55_32, ↓g_55_33, ↓g_55_34, ↓g_55_35, ↓g_55_36, ↓g_55_37, ↓g_55_38, ↓g_55_39, ↓g_55_40, ↓g_55_41, ↓g_55_42, ↓g_55_43, ↓g_55_44, ↓g_55_47, ↓g_55_48, ↓g_55_49, ↓g_55_50, ↓g_55_51, ↓g_55_52, ↓g_55_53, ↓g_55_54, ↓al_56, ↓al_57, ↓al_58, ↓al_59, ↓al_61, ↓al_62, ↓al_63, ↓al_64, ↓al_65, ↓al_66, ↓al_67, ↓al_68, ↓al_69, ↓al_70, ↓al_71, ↓al_72, ↓al_73, ↓al_74, ↓al_75, ↓al_76, ↓al_77, ↓al_78, ↓al_79, ↓al_80, ↓al_81, ↓al_82, ↓al_83, ↓al_84, ↓al_85, ↓al_86, ↓al_87, ↓as_56, ↓as_57, ↓as_58, ↓as_59, ↓as_61, ↓as_62, ↓as_63, ↓as_64, ↓as_65, ↓as_66, ↓as_67, ↓as_68, ↓as_69, ↓as_70, ↓as_71, ↓as_72, ↓as_73, ↓as_74, ↓as_75, ↓as_76, ↓as_77, ↓as_78, ↓as_79, ↓as_80, ↓as_81, ↓as_82, ↓as_83, ↓as_84, ↓as_85, ↓as_86, ↓as_87, ↓gi_55, ↓pi_55, ↓ck_55, ↓gi_60, ↓pi_60, ↓ck_60, j0, j1, j2, j3, j4, j5, j6, j7, j8, j9, j10, j11, j12, j13, j14, j15, j16, j17, j18, j19, j20, j21, j24, j25, j30, j31, j32, j36, j41, j48, j49, j57, j59, j60, j63, j64, j81, j97, j99, j100, j122, j255, j300, j400, j500, j999, j1000, j24000, j_add, j_sub, j_mul, j_neg, j_lt, j_le, j_eq, mI_sI, mR_sI, mN_sI, mI_sR, mR_sR, mN_sR, Int.toNat_natCast, true_and, and_true, false_and, and_false, if_true, if_false, reduceIte, Nat.reduceEqDiff, Option.some.injEq, Prod.mk.injEq, k_of, k_add, k_sub, k_mul, k_neg, lg_lt, lg_gt, lg_eq, b_0, b_J0, b_J1, b_retZ, k0, k1, k2, k3, k10, k19, k20, k30, k40, k999, ↓in_b, ↓dayM_b, ↓gsrM_b, ↓isqM_b, Int.add_sub_cancel, not_true, not_false_eq_true, jn1, m_55_0 hM, m_55_1 hM, m_55_2 hM, m_55_3 hM, m_55_4 hM, m_55_25 hM, m_55_26 hM, m_55_16 hM, m_55_22 hM, m_55_23 hM, m_55_27 hM, m_56 hM, m_57 hM, m_63 hM, m_64 hM, m_65 hM, m_66 hM, m_67 hM, m_68 hM, m_69 hM, m_70 hM, m_61 hM, m_71 hM, m_72 hM, m_73 hM, m_84 hM, show (k : Int) < C 55 26 by omega, w1, w2]
    · rw [if_neg (by omega)]
      simp (disch := first | assumption | (simp only [SH_sI, SH_sL]; assumption) | omega) only [↓s_nm, ↓s_bnd2, ↓s_some, ↓s_suml, ↓s_sumr, ↓s_nz, ↓gi_q, ↓pi_q, ↓ck_q, ↓gi_gs, ↓gr_gs, ↓g_55_10, ↓g_55_11, ↓g_55_12, ↓g_55_13, ↓g_55_14, ↓g_55_15, ↓g_55_24, ↓g_55_28, ↓g_55_29, ↓g_55_30, ↓g_55_31, ↓g_55_32, ↓g_55_33, ↓g_55_34, ↓g_55_35, ↓g_55_36, ↓g_55_37, ↓g_55_38, ↓g_55_39, ↓g_55_40, ↓g_55_41, ↓g_55_42, ↓g_55_43, ↓g_55_44, ↓g_55_47, ↓g_55_48, ↓g_55_49, ↓g_55_50, ↓g_55_51, ↓g_55_52, ↓g_55_53, ↓g_55_54, ↓al_56, ↓al_57, ↓al_58, ↓al_59, ↓al_61, ↓al_62, ↓al_63, ↓al_64, ↓al_65, ↓al_66, ↓al_67, ↓al_68, ↓al_69, ↓al_70, ↓al_71, ↓al_72, ↓al_73, ↓al_74, ↓al_75, ↓al_76, ↓al_77, ↓al_78, ↓al_79, ↓al_80, ↓al_81, ↓al_82, ↓al_83, ↓al_84, ↓al_85, ↓al_86, ↓al_87, ↓as_56, ↓as_57, ↓as_58, ↓as_59, ↓as_61, ↓as_62, ↓as_63, ↓as_64, ↓as_65, ↓as_66, ↓as_67, ↓as_68, ↓as_69, ↓as_70, ↓as_71, ↓as_72, ↓as_73, ↓as_74, ↓as_75, ↓as_76, ↓as_77, ↓as_78, ↓as_79, ↓as_80, ↓as_81, ↓as_82, ↓as_83, ↓as_84, ↓as_85, ↓as_86, ↓as_87, ↓gi_55, ↓pi_55, ↓ck_55, ↓gi_60, ↓pi_60, ↓ck_60, j0, j1, j2, j3, j4, j5, j6, j7, j8, j9, j10, j11, j12, j13, j14, j15, j16, j17, j18, j19, j20, j21, j24, j25, j30, j31, j32, j36, j41, j48, j49, j57, j59, j60, j63, j64, j81, j97, j99, j100, j122, j255, j300, j400, j500, j999, j1000, j24000, j_add, j_sub, j_mul, j_neg, j_lt, j_le, j_eq, mI_sI, mR_sI, mN_sI, mI_sR, mR_sR, mN_sR, Int.toNat_natCast, true_and, and_true, false_and, and_false, if_true, if_false, reduceIte, Nat.reduceEqDiff, Option.some.injEq, Prod.mk.injEq, k_of, k_add, k_sub, k_mul, k_neg, lg_lt, lg_gt, lg_eq, b_0, b_J0, b_J1, b_retZ, k0, k1, k2, k3, k10, k19, k20, k30, k40, k999, ↓in_b, ↓dayM_b, ↓gsrM_b, ↓isqM_b, Int.add_sub_cancel, not_true, not_false_eq_true, jn1, m_55_0 hM, m_55_1 hM, m_55_2 hM, m_55_3 hM, m_55_4 hM, m_55_25 hM, m_55_26 hM, m_55_16 hM, m_55_22 hM, m_55_23 hM, m_55_27 hM, m_56 hM, m_57 hM, m_63 hM, m_64 hM, m_65 hM, m_66 hM, m_67 hM, m_68 hM, m_69 hM, m_70 hM, m_61 hM, m_71 hM, m_72 hM, m_73 hM, m_84 hM, show (k : Int) < C 55 26 by omega, w1]
  · show bX12_heldOn_6 55 (J g) (J q) (J d) u _ _ = _
    unfold bX12_heldOn_6
    simp (disch := first | assumption | (simp only [SH_sI, SH_sL]; assumption) | omega) only [↓s_nm, ↓s_bnd2, ↓s_some, ↓s_suml, ↓s_sumr, ↓s_nz, ↓gi_q, ↓pi_q, ↓ck_q, ↓gi_gs, ↓gr_gs, ↓g_55_10, ↓g_55_11, ↓g_55_12, ↓g_55_13, ↓g_55_14, ↓g_55_15, ↓g_55_24, ↓g_55_28, ↓g_55_29, ↓g_55_30, ↓g_55_31, ↓g_55_32, ↓g_55_33, ↓g_55_34, ↓g_55_35, ↓g_55_36, ↓g_55_37, ↓g_55_38, ↓g_55_39, ↓g_55_40, ↓g_55_41, ↓g_55_42, ↓g_55_43, ↓g_55_44, ↓g_55_47, ↓g_55_48, ↓g_55_49, ↓g_55_50, ↓g_55_51, ↓g_55_52, ↓g_55_53, ↓g_55_54, ↓al_56, ↓al_57, ↓al_58, ↓al_59, ↓al_61, ↓al_62, ↓al_63, ↓al_64, ↓al_65, ↓al_66, ↓al_67, ↓al_68, ↓al_69, ↓al_70, ↓al_71, ↓al_72, ↓al_73, ↓al_74, ↓al_75, ↓al_76, ↓al_77, ↓al_78, ↓al_79, ↓al_80, ↓al_81, ↓al_82, ↓al_83, ↓al_84, ↓al_85, ↓al_86, ↓al_87, ↓as_56, ↓as_57, ↓as_58, ↓as_59, ↓as_61, ↓as_62, ↓as_63, ↓as_64, ↓as_65, ↓as_66, ↓as_67, ↓as_68, ↓as_69, ↓as_70, ↓as_71, ↓as_72, ↓as_73, ↓as_74, ↓as_75, ↓as_76, ↓as_77, ↓as_78, ↓as_79, ↓as_80, ↓as_81, ↓as_82, ↓as_83, ↓as_84, ↓as_85, ↓as_86, ↓as_87, ↓gi_55, ↓pi_55, ↓ck_55, ↓gi_60, ↓pi_60, ↓ck_60, j0, j1, j2, j3, j4, j5, j6, j7, j8, j9, j10, j11, j12, j13, j14, j15, j16, j17, j18, j19, j20, j21, j24, j25, j30, j31, j32, j36, j41, j48, j49, j57, j59, j60, j63, j64, j81, j97, j99, j100, j122, j255, j300, j400, j500, j999, j1000, j24000, j_add, j_sub, j_mul, j_neg, j_lt, j_le, j_eq, mI_sI, mR_sI, mN_sI, mI_sR, mR_sR, mN_sR, Int.toNat_natCast, true_and, and_true, false_and, and_false, if_true, if_false, reduceIte, Nat.reduceEqDiff, Option.some.injEq, Prod.mk.injEq, k_of, k_add, k_sub, k_mul, k_neg, lg_lt, lg_gt, lg_eq, b_0, b_J0, b_J1, b_retZ, k0, k1, k2, k3, k10, k19, k20, k30, k40, k999, ↓in_b, ↓dayM_b, ↓gsrM_b, ↓isqM_b, Int.add_sub_cancel, not_true, not_false_eq_true, jn1, m_55_0 hM, m_55_1 hM, m_55_2 hM, m_55_3 hM, m_55_4 hM, m_55_25 hM, m_55_26 hM, m_55_16 hM, m_55_22 hM, m_55_23 hM, m_55_27 hM, m_56 hM, m_57 hM, m_63 hM, m_64 hM, m_65 hM, m_66 hM, m_67 hM, m_68 hM, m_69 hM, m_70 hM, m_61 hM, m_71 hM, m_72 hM, m_73 hM, m_84 hM, show ¬ (((nG C : Nat) : Int) < C 55 26) by omega]
    rfl
theorem lat_go (hS : SH u) (hC : OkC C) (hG : RCg C u) (h1 : -2147483648 ≤ d) (h2 : d ≤ 1000) : ∀ m F : Nat, m ≤ nG C → m < F → lp (fun s : Option Nat => bX0_latestUpTo_7 (J d) u s) F (cel (lastD C g q 1000 m)) = some (cel (lastD C g q d m)) := by
  intro m
  induction m using Nat.strongRecOn with
  | _ m ih =>
    intro F hm hF
    obtain ⟨F, rfl⟩ : ∃ F', F = F' + 1 := ⟨F - 1, by omega⟩
    rw [lp]
    cases hL : lastD C g q 1000 m with
    | none =>
      have e : lastD C g q d m = none := by
        rw [lastD_none] at hL ⊢
        intro k hk hx
        exact hL k hk ⟨hx.1, hx.2.1, by omega⟩
      rw [e]
      rfl
    | some i =>
      obtain ⟨w1, w2, w3, w4, w5⟩ := lastD_some _ hL
      have ok := okg hC (k := i) (by omega)
      obtain ⟨f0, f1, f2, f3, f4⟩ := hG.2.1 i (by omega)
      have hmN : 88 + i < mN u := by have := hG.1; omega
      have w6 : ∀ k, i < k → k < m → ¬ (C 67 k = g ∧ C 68 k = q ∧ C 69 k ≤ d) := fun k k1 k2 k3 => w5 k k1 k2 ⟨k3.1, k3.2.1, by omega⟩
      have hb : bX0_latestUpTo_7 (J d) u (some (88 + i)) = if d < C 69 i then some (.inl (cel (lastD C g q 1000 i))) else some (.inr (some (88 + i))) := by
        unfold bX0_latestUpTo_7
        rw [if_neg (by simp)]
        simp (disch := first | assumption | (simp only [SH_sI, SH_sL]; assumption) | omega) only [↓s_nm, ↓s_bnd2, ↓s_some, ↓s_suml, ↓s_sumr, ↓s_nz, ↓gi_q, ↓pi_q, ↓ck_q, ↓gi_gs, ↓gr_gs, ↓g_0_0, ↓g_0_1, ↓g_0_2, ↓g_0_3, ↓g_0_4, ↓g_0_5, ↓g_0_6, ↓g_0_7, ↓g_1_0, ↓g_3_0, ↓g_3_3, ↓g_4_0, ↓g_4_1, ↓g_7_0, ↓g_7_1, ↓g_10_0, ↓g_10_1, ↓g_10_2, ↓g_34_0, ↓g_34_1, ↓g_34_2, ↓g_34_3, ↓g_34_4, ↓g_34_5, ↓g_39_2, ↓g_39_3, ↓g_39_4, ↓g_39_5, ↓g_39_6, ↓g_39_7, ↓g_39_8, ↓g_39_9, ↓g_45_0, ↓g_45_1, ↓g_45_2, ↓g_45_4, ↓g_49_0, ↓g_49_1, ↓g_49_2, ↓g_49_3, ↓g_49_4, ↓g_49_5, ↓g_49_6, ↓al_2, ↓al_5, ↓al_6, ↓al_8, ↓al_9, ↓al_11, ↓al_12, ↓al_13, ↓al_35, ↓al_36, ↓al_37, ↓al_38, ↓al_40, ↓al_41, ↓al_42, ↓al_43, ↓al_44, ↓al_46, ↓al_47, ↓al_48, ↓al_50, ↓al_51, ↓al_52, ↓al_53, ↓al_54, ↓as_2, ↓as_5, ↓as_6, ↓as_8, ↓as_9, ↓as_12, ↓as_13, ↓as_35, ↓as_36, ↓as_37, ↓as_38, ↓as_40, ↓as_41, ↓as_42, ↓as_43, ↓as_44, ↓as_46, ↓as_47, ↓as_48, ↓as_50, ↓as_51, ↓as_52, ↓as_53, ↓as_54, ↓gi_0, ↓pi_0, ↓ck_0, ↓gi_1, ↓pi_1, ↓ck_1, ↓gi_3, ↓pi_3, ↓ck_3, ↓gi_4, ↓pi_4, ↓ck_4, ↓gi_7, ↓pi_7, ↓ck_7, ↓gi_10, ↓pi_10, ↓ck_10, ↓gi_34, ↓pi_34, ↓ck_34, ↓gi_39, ↓pi_39, ↓ck_39, ↓gi_45, ↓pi_45, ↓ck_45, ↓gi_49, ↓pi_49, ↓ck_49, j0, j1, j2, j3, j4, j5, j6, j7, j8, j9, j10, j11, j12, j13, j14, j15, j16, j17, j18, j19, j20, j21, j24, j25, j30, j31, j32, j36, j41, j48, j49, j57, j59, j60, j63, j64, j81, j97, j99, j100, j122, j255, j300, j400, j500, j999, j1000, j24000, j_add, j_sub, j_mul, j_neg, j_lt, j_le, j_eq, mI_sI, mR_sI, mN_sI, mI_sR, mR_sR, mN_sR, Int.toNat_natCast, true_and, and_true, false_and, and_false, if_true, if_false, reduceIte, Nat.reduceEqDiff, Option.some.injEq, Prod.mk.injEq, k_of, k_add, k_sub, k_mul, k_neg, lg_lt, lg_gt, lg_eq, b_0, b_J0, b_J1, b_retZ, k0, k1, k2, k3, k10, k19, k20, k30, k40, k999, ↓dayC_b, ↓gsrC_b, ↓tenC_b, ↓zooC_b, ↓isqC_b, Int.add_sub_cancel, not_true, not_false_eq_true, jn1, f2, f4, show (C 67 i).toNat = g by omega, show (C 68 i).toNat = q by omega]
      show ((bX0_latestUpTo_7 (J d) u (some (88 + i))).bind _) = _
      rw [hb]
      by_cases w : d < C 69 i
      · rw [if_pos w, Option.bind_some]
        show lp _ F _ = _
        rw [ih i w1 F (by omega) (by omega), lastD_skip (i := i) m (by omega) fun k k1 k2 k3 => ?_]
        by_cases k4 : k = i
        · subst k4; omega
        · exact w6 k (by omega) k2 k3
      · rw [if_neg w, lastD_at w1 ⟨w2, w3, by omega⟩ w6]
        rfl
theorem latC (hS : SH u) (hC : OkC C) (hG : RCg C u) (hg : g < 20) (hq : q < 20) (h1 : -2147483648 ≤ d) (h2 : d ≤ 1000) : fX0_latestUpTo 10 (J (g * 20 + q)) (J d) u = some (cel (lastD C g q d (nG C))) := by
  have hgg := hC.g
  unfold fX0_latestUpTo
  have e : ((g : Int) * 20 + (q : Int)).toNat = g * 20 + q := by omega
  simp (disch := first | assumption | (simp only [SH_sI, SH_sL]; assumption) | omega) only [↓s_nm, ↓s_bnd2, ↓s_some, ↓s_suml, ↓s_sumr, ↓s_nz, ↓gi_q, ↓pi_q, ↓ck_q, ↓gi_gs, ↓gr_gs, ↓g_0_0, ↓g_0_1, ↓g_0_2, ↓g_0_3, ↓g_0_4, ↓g_0_5, ↓g_0_6, ↓g_0_7, ↓g_1_0, ↓g_3_0, ↓g_3_3, ↓g_4_0, ↓g_4_1, ↓g_7_0, ↓g_7_1, ↓g_10_0, ↓g_10_1, ↓g_10_2, ↓g_34_0, ↓g_34_1, ↓g_34_2, ↓g_34_3, ↓g_34_4, ↓g_34_5, ↓g_39_2, ↓g_39_3, ↓g_39_4, ↓g_39_5, ↓g_39_6, ↓g_39_7, ↓g_39_8, ↓g_39_9, ↓g_45_0, ↓g_45_1, ↓g_45_2, ↓g_45_4, ↓g_49_0, ↓g_49_1, ↓g_49_2, ↓g_49_3, ↓g_49_4, ↓g_49_5, ↓g_49_6, ↓al_2, ↓al_5, ↓al_6, ↓al_8, ↓al_9, ↓al_11, ↓al_12, ↓al_13, ↓al_35, ↓al_36, ↓al_37, ↓al_38, ↓al_40, ↓al_41, ↓al_42, ↓al_43, ↓al_44, ↓al_46, ↓al_47, ↓al_48, ↓al_50, ↓al_51, ↓al_52, ↓al_53, ↓al_54, ↓as_2, ↓as_5, ↓as_6, ↓as_8, ↓as_9, ↓as_12, ↓as_13, ↓as_35, ↓as_36, ↓as_37, ↓as_38, ↓as_40, ↓as_41, ↓as_42, ↓as_43, ↓as_44, ↓as_46, ↓as_47, ↓as_48, ↓as_50, ↓as_51, ↓as_52, ↓as_53, ↓as_54, ↓gi_0, ↓pi_0, ↓ck_0, ↓gi_1, ↓pi_1, ↓ck_1, ↓gi_3, ↓pi_3, ↓ck_3, ↓gi_4, ↓pi_4, ↓ck_4, ↓gi_7, ↓pi_7, ↓ck_7, ↓gi_10, ↓pi_10, ↓ck_10, ↓gi_34, ↓pi_34, ↓ck_34, ↓gi_39, ↓pi_39, ↓ck_39, ↓gi_45, ↓pi_45, ↓ck_45, ↓gi_49, ↓pi_49, ↓ck_49, j0, j1, j2, j3, j4, j5, j6, j7, j8, j9, j10, j11, j12, j13, j14, j15, j16, j17, j18, j19, j20, j21, j24, j25, j30, j31, j32, j36, j41, j48, j49, j57, j59, j60, j63, j64, j81, j97, j99, j100, j122, j255, j300, j400, j500, j999, j1000, j24000, j_add, j_sub, j_mul, j_neg, j_lt, j_le, j_eq, mI_sI, mR_sI, mN_sI, mI_sR, mR_sR, mN_sR, Int.toNat_natCast, true_and, and_true, false_and, and_false, if_true, if_false, reduceIte, Nat.reduceEqDiff, Option.some.injEq, Prod.mk.injEq, k_of, k_add, k_sub, k_mul, k_neg, lg_lt, lg_gt, lg_eq, b_0, b_J0, b_J1, b_retZ, k0, k1, k2, k3, k10, k19, k20, k30, k40, k999, ↓dayC_b, ↓gsrC_b, ↓tenC_b, ↓zooC_b, ↓isqC_b, Int.add_sub_cancel, not_true, not_false_eq_true, jn1, e, hG.2.2.1 g q hg hq]
  rw [lat_go hS hC hG h1 h2 _ _ (Nat.le_refl _) (FU_gt (by omega))]
  rfl
theorem heldC (hS : SH u) (hC : OkC C) (hG : RCg C u) (hg : g < 20) (hq : q < 20) (h1 : -2147483648 ≤ d) (h2 : d ≤ 1000) : fX0_heldTenth 10 (J g) (J q) (J d) u = some (J (hl C g q d)) := by
  unfold fX0_heldTenth fX10_cell
  simp (disch := first | assumption | (simp only [SH_sI, SH_sL]; assumption) | omega) only [↓s_nm, ↓s_bnd2, ↓s_some, ↓s_suml, ↓s_sumr, ↓s_nz, ↓gi_q, ↓pi_q, ↓ck_q, ↓gi_gs, ↓gr_gs, ↓g_0_0, ↓g_0_1, ↓g_0_2, ↓g_0_3, ↓g_0_4, ↓g_0_5, ↓g_0_6, ↓g_0_7, ↓g_1_0, ↓g_3_0, ↓g_3_3, ↓g_4_0, ↓g_4_1, ↓g_7_0, ↓g_7_1, ↓g_10_0, ↓g_10_1, ↓g_10_2, ↓g_34_0, ↓g_34_1, ↓g_34_2, ↓g_34_3, ↓g_34_4, ↓g_34_5, ↓g_39_2, ↓g_39_3, ↓g_39_4, ↓g_39_5, ↓g_39_6, ↓g_39_7, ↓g_39_8, ↓g_39_9, ↓g_45_0, ↓g_45_1, ↓g_45_2, ↓g_45_4, ↓g_49_0, ↓g_49_1, ↓g_49_2, ↓g_49_3, ↓g_49_4, ↓g_49_5, ↓g_49_6, ↓al_2, ↓al_5, ↓al_6, ↓al_8, ↓al_9, ↓al_11, ↓al_12, ↓al_13, ↓al_35, ↓al_36, ↓al_37, ↓al_38, ↓al_40, ↓al_41, ↓al_42, ↓al_43, ↓al_44, ↓al_46, ↓al_47, ↓al_48, ↓al_50, ↓al_51, ↓al_52, ↓al_53, ↓al_54, ↓as_2, ↓as_5, ↓as_6, ↓as_8, ↓as_9, ↓as_12, ↓as_13, ↓as_35, ↓as_36, ↓as_37, ↓as_38, ↓as_40, ↓as_41, ↓as_42, ↓as_43, ↓as_44, ↓as_46, ↓as_47, ↓as_48, ↓as_50, ↓as_51, ↓as_52, ↓as_53, ↓as_54, ↓gi_0, ↓pi_0, ↓ck_0, ↓gi_1, ↓pi_1, ↓ck_1, ↓gi_3, ↓pi_3, ↓ck_3, ↓gi_4, ↓pi_4, ↓ck_4, ↓gi_7, ↓pi_7, ↓ck_7, ↓gi_10, ↓pi_10, ↓ck_10, ↓gi_34, ↓pi_34, ↓ck_34, ↓gi_39, ↓pi_39, ↓ck_39, ↓gi_45, ↓pi_45, ↓ck_45, ↓gi_49, ↓pi_49, ↓ck_49, j0, j1, j2, j3, j4, j5, j6, j7, j8, j9, j10, j11, j12, j13, j14, j15, j16, j17, j18, j19, j20, j21, j24, j25, j30, j31, j32, j36, j41, j48, j49, j57, j59, j60, j63, j64, j81, j97, j99, j100, j122, j255, j300, j400, j500, j999, j1000, j24000, j_add, j_sub, j_mul, j_neg, j_lt, j_le, j_eq, mI_sI, mR_sI, mN_sI, mI_sR, mR_sR, mN_sR, Int.toNat_natCast, true_and, and_true, false_and, and_false, if_true, if_false, reduceIte, Nat.reduceEqDiff, Option.some.injEq, Prod.mk.injEq, k_of, k_add, k_sub, k_mul, k_neg, lg_lt, lg_gt, lg_eq, b_0, b_J0, b_J1, b_retZ, k0, k1, k2, k3, k10, k19, k20, k30, k40, k999, ↓dayC_b, ↓gsrC_b, ↓tenC_b, ↓zooC_b, ↓isqC_b, Int.add_sub_cancel, not_true, not_false_eq_true, jn1]
  rw [latC hS hC hG hg hq h1 h2]
  unfold hl
  cases hL : lastD C g q d (nG C) with
  | none => rfl
  | some i =>
    obtain ⟨w1, -⟩ := lastD_some _ hL
    obtain ⟨f0, f1, f2, f3, f4⟩ := hG.2.1 i w1
    have hmN : 88 + i < mN u := by have := hG.1; omega
    show (if (some (88 + i) : Option Nat) = none then some (-1 : Int32) else (gfI u (some (88 + i)) 3 3).bind fun v5 => some v5) = _
    rw [if_neg (by simp)]
    simp (disch := first | assumption | (simp only [SH_sI, SH_sL]; assumption) | omega) only [↓s_nm, ↓s_bnd2, ↓s_some, ↓s_suml, ↓s_sumr, ↓s_nz, ↓gi_q, ↓pi_q, ↓ck_q, ↓gi_gs, ↓gr_gs, ↓g_0_0, ↓g_0_1, ↓g_0_2, ↓g_0_3, ↓g_0_4, ↓g_0_5, ↓g_0_6, ↓g_0_7, ↓g_1_0, ↓g_3_0, ↓g_3_3, ↓g_4_0, ↓g_4_1, ↓g_7_0, ↓g_7_1, ↓g_10_0, ↓g_10_1, ↓g_10_2, ↓g_34_0, ↓g_34_1, ↓g_34_2, ↓g_34_3, ↓g_34_4, ↓g_34_5, ↓g_39_2, ↓g_39_3, ↓g_39_4, ↓g_39_5, ↓g_39_6, ↓g_39_7, ↓g_39_8, ↓g_39_9, ↓g_45_0, ↓g_45_1, ↓g_45_2, ↓g_45_4, ↓g_49_0, ↓g_49_1, ↓g_49_2, ↓g_49_3, ↓g_49_4, ↓g_49_5, ↓g_49_6, ↓al_2, ↓al_5, ↓al_6, ↓al_8, ↓al_9, ↓al_11, ↓al_12, ↓al_13, ↓al_35, ↓al_36, ↓al_37, ↓al_38, ↓al_40, ↓al_41, ↓al_42, ↓al_43, ↓al_44, ↓al_46, ↓al_47, ↓al_48, ↓al_50, ↓al_51, ↓al_52, ↓al_53, ↓al_54, ↓as_2, ↓as_5, ↓as_6, ↓as_8, ↓as_9, ↓as_12, ↓as_13, ↓as_35, ↓as_36, ↓as_37, ↓as_38, ↓as_40, ↓as_41, ↓as_42, ↓as_43, ↓as_44, ↓as_46, ↓as_47, ↓as_48, ↓as_50, ↓as_51, ↓as_52, ↓as_53, ↓as_54, ↓gi_0, ↓pi_0, ↓ck_0, ↓gi_1, ↓pi_1, ↓ck_1, ↓gi_3, ↓pi_3, ↓ck_3, ↓gi_4, ↓pi_4, ↓ck_4, ↓gi_7, ↓pi_7, ↓ck_7, ↓gi_10, ↓pi_10, ↓ck_10, ↓gi_34, ↓pi_34, ↓ck_34, ↓gi_39, ↓pi_39, ↓ck_39, ↓gi_45, ↓pi_45, ↓ck_45, ↓gi_49, ↓pi_49, ↓ck_49, j0, j1, j2, j3, j4, j5, j6, j7, j8, j9, j10, j11, j12, j13, j14, j15, j16, j17, j18, j19, j20, j21, j24, j25, j30, j31, j32, j36, j41, j48, j49, j57, j59, j60, j63, j64, j81, j97, j99, j100, j122, j255, j300, j400, j500, j999, j1000, j24000, j_add, j_sub, j_mul, j_neg, j_lt, j_le, j_eq, mI_sI, mR_sI, mN_sI, mI_sR, mR_sR, mN_sR, Int.toNat_natCast, true_and, and_true, false_and, and_false, if_true, if_false, reduceIte, Nat.reduceEqDiff, Option.some.injEq, Prod.mk.injEq, k_of, k_add, k_sub, k_mul, k_neg, lg_lt, lg_gt, lg_eq, b_0, b_J0, b_J1, b_retZ, k0, k1, k2, k3, k10, k19, k20, k30, k40, k999, ↓dayC_b, ↓gsrC_b, ↓tenC_b, ↓zooC_b, ↓isqC_b, Int.add_sub_cancel, not_true, not_false_eq_true, jn1, f3]
    rfl
theorem heldC_b {f : Int32 → Option β} (hS : SH u) (hC : OkC C) (hG : RCg C u) (hg : g < 20) (hq : q < 20) (h1 : -2147483648 ≤ d) (h2 : d ≤ 1000) : (fX0_heldTenth 10 (J g) (J q) (J d) u).bind f = f (J (hl C g q d)) := by
  rw [heldC hS hC hG hg hq h1 h2]; rfl
theorem heldM_b {f : Int32 → Option β} (hS : SH u) (hC : OkC C) (hM : RM C D u) (hg : g < 20) (hq : q < 20) (h1 : -2147483648 ≤ d) (h2 : d < 2147483648) : (fX12_heldOn 55 (J g) (J q) (J d) u).bind f = f (J (hl C g q d)) := by
  rw [heldM hS hC hM hg hq h1 h2]; rfl
theorem c_holds {a b c : Int} (I : Inv C D n u) (h1 : -2147483648 ≤ a) (h2 : a < 2147483648) (h3 : -2147483648 ≤ b) (h4 : b < 2147483648) (h5 : -2147483648 ≤ c) (h6 : c < 2147483648) : ∃ r, fX10_holds 0 (J a) (J b) (J c) u = some r ∧ fX12_holds 55 (J a) (J b) (J c) u = some r := by
  obtain ⟨hS, hC, hD, hM, hA, hQ, hG, hV⟩ := I
  have hC0 := hC.1
  unfold fX10_holds fX12_holds
  by_cases q1 : (0 ≤ a ∧ a ≤ 19) ∧ (0 ≤ b ∧ b ≤ C 55 25 - 1) ∧ (0 ≤ c ∧ c ≤ 999)
  · obtain ⟨g, rfl⟩ : ∃ q : Nat, a = q := ⟨a.toNat, by omega⟩
    obtain ⟨q, rfl⟩ : ∃ q : Nat, b = q := ⟨b.toNat, by omega⟩
    simp (disch := first | assumption | (simp only [SH_sI, SH_sL]; assumption) | omega) only [↓s_nm, ↓s_bnd2, ↓s_some, ↓s_suml, ↓s_sumr, ↓s_nz, ↓gi_q, ↓pi_q, ↓ck_q, ↓gi_gs, ↓gr_gs, ↓g_0_0, ↓g_0_1, ↓g_0_2, ↓g_0_3, ↓g_0_4, ↓g_0_5, ↓g_0_6, ↓g_0_7, ↓g_1_0, ↓g_3_0, ↓g_3_3, ↓g_4_0, ↓g_4_1, ↓g_7_0, ↓g_7_1, ↓g_10_0, ↓g_10_1, ↓g_10_2, ↓g_34_0, ↓g_34_1, ↓g_34_2, ↓g_34_3, ↓g_34_4, ↓g_34_5, ↓g_39_2, ↓g_39_3, ↓g_39_4, ↓g_39_5, ↓g_39_6, ↓g_39_7, ↓g_39_8, ↓g_39_9, ↓g_45_0, ↓g_45_1, ↓g_45_2, ↓g_45_4, ↓g_49_0, ↓g_49_1, ↓g_49_2, ↓g_49_3, ↓g_49_4, ↓g_49_5, ↓g_49_6, ↓al_2, ↓al_5, ↓al_6, ↓al_8, ↓al_9, ↓al_11, ↓al_12, ↓al_13, ↓al_35, ↓al_36, ↓al_37, ↓al_38, ↓al_40, ↓al_41, ↓al_42, ↓al_43, ↓al_44, ↓al_46, ↓al_47, ↓al_48, ↓al_50, ↓al_51, ↓al_52, ↓al_53, ↓al_54, ↓as_2, ↓as_5, ↓as_6, ↓as_8, ↓as_9, ↓as_12, ↓as_13, ↓as_35, ↓as_36, ↓as_37, ↓as_38, ↓as_40, ↓as_41, ↓as_42, ↓as_43, ↓as_44, ↓as_46, ↓as_47, ↓as_48, ↓as_50, ↓as_51, ↓as_52, ↓as_53, ↓as_54, ↓gi_0, ↓pi_0, ↓ck_0, ↓gi_1, ↓pi_1, ↓ck_1, ↓gi_3, ↓pi_3, ↓ck_3, ↓gi_4, ↓pi_4, ↓ck_4, ↓gi_7, ↓pi_7, ↓ck_7, ↓gi_10, ↓pi_10, ↓ck_10, ↓gi_34, ↓pi_34, ↓ck_34, ↓gi_39, ↓pi_39, ↓ck_39, ↓gi_45, ↓pi_45, ↓ck_45, ↓gi_49, ↓pi_49, ↓ck_49, j0, j1, j2, j3, j4, j5, j6, j7, j8, j9, j10, j11, j12, j13, j14, j15, j16, j17, j18, j19, j20, j21, j24, j25, j30, j31, j32, j36, j41, j48, j49, j57, j59, j60, j63, j64, j81, j97, j99, j100, j122, j255, j300, j400, j500, j999, j1000, j24000, j_add, j_sub, j_mul, j_neg, j_lt, j_le, j_eq, mI_sI, mR_sI, mN_sI, mI_sR, mR_sR, mN_sR, Int.toNat_natCast, true_and, and_true, false_and, and_false, if_true, if_false, reduceIte, Nat.reduceEqDiff, Option.some.injEq, Prod.mk.injEq, k_of, k_add, k_sub, k_mul, k_neg, lg_lt, lg_gt, lg_eq, b_0, b_J0, b_J1, b_retZ, k0, k1, k2, k3, k10, k19, k20, k30, k40, k999, ↓dayC_b, ↓gsrC_b, ↓tenC_b, ↓zooC_b, ↓isqC_b, Int.add_sub_cancel, not_true, not_false_eq_true, jn1, a_len hA, a_byte hA, a_fk hA, a_fp hA, a_half hA, a_past hA, a_cd hA, a_cm hA, a_least hA, a_yes hA, a_no hA, a_nq hA, a_ng hA, a_nt hA, a_t1 hA, a_t2 hA, a_t3 hA, a_men hA, ↓gsrM_b, ↓isqM_b, ↓dayM_b, ↓ck_55, q1, ↓heldC_b, ↓heldM_b]
    exact ⟨_, rfl, rfl⟩
  · refine ⟨J (-2), ?_, ?_⟩
    · simp (disch := first | assumption | (simp only [SH_sI, SH_sL]; assumption) | omega) only [↓s_nm, ↓s_bnd2, ↓s_some, ↓s_suml, ↓s_sumr, ↓s_nz, ↓gi_q, ↓pi_q, ↓ck_q, ↓gi_gs, ↓gr_gs, ↓g_0_0, ↓g_0_1, ↓g_0_2, ↓g_0_3, ↓g_0_4, ↓g_0_5, ↓g_0_6, ↓g_0_7, ↓g_1_0, ↓g_3_0, ↓g_3_3, ↓g_4_0, ↓g_4_1, ↓g_7_0, ↓g_7_1, ↓g_10_0, ↓g_10_1, ↓g_10_2, ↓g_34_0, ↓g_34_1, ↓g_34_2, ↓g_34_3, ↓g_34_4, ↓g_34_5, ↓g_39_2, ↓g_39_3, ↓g_39_4, ↓g_39_5, ↓g_39_6, ↓g_39_7, ↓g_39_8, ↓g_39_9, ↓g_45_0, ↓g_45_1, ↓g_45_2, ↓g_45_4, ↓g_49_0, ↓g_49_1, ↓g_49_2, ↓g_49_3, ↓g_49_4, ↓g_49_5, ↓g_49_6, ↓al_2, ↓al_5, ↓al_6, ↓al_8, ↓al_9, ↓al_11, ↓al_12, ↓al_13, ↓al_35, ↓al_36, ↓al_37, ↓al_38, ↓al_40, ↓al_41, ↓al_42, ↓al_43, ↓al_44, ↓al_46, ↓al_47, ↓al_48, ↓al_50, ↓al_51, ↓al_52, ↓al_53, ↓al_54, ↓as_2, ↓as_5, ↓as_6, ↓as_8, ↓as_9, ↓as_12, ↓as_13, ↓as_35, ↓as_36, ↓as_37, ↓as_38, ↓as_40, ↓as_41, ↓as_42, ↓as_43, ↓as_44, ↓as_46, ↓as_47, ↓as_48, ↓as_50, ↓as_51, ↓as_52, ↓as_53, ↓as_54, ↓gi_0, ↓pi_0, ↓ck_0, ↓gi_1, ↓pi_1, ↓ck_1, ↓gi_3, ↓pi_3, ↓ck_3, ↓gi_4, ↓pi_4, ↓ck_4, ↓gi_7, ↓pi_7, ↓ck_7, ↓gi_10, ↓pi_10, ↓ck_10, ↓gi_34, ↓pi_34, ↓ck_34, ↓gi_39, ↓pi_39, ↓ck_39, ↓gi_45, ↓pi_45, ↓ck_45, ↓gi_49, ↓pi_49, ↓ck_49, j0, j1, j2, j3, j4, j5, j6, j7, j8, j9, j10, j11, j12, j13, j14, j15, j16, j17, j18, j19, j20, j21, j24, j25, j30, j31, j32, j36, j41, j48, j49, j57, j59, j60, j63, j64, j81, j97, j99, j100, j122, j255, j300, j400, j500, j999, j1000, j24000, j_add, j_sub, j_mul, j_neg, j_lt, j_le, j_eq, mI_sI, mR_sI, mN_sI, mI_sR, mR_sR, mN_sR, Int.toNat_natCast, true_and, and_true, false_and, and_false, if_true, if_false, reduceIte, Nat.reduceEqDiff, Option.some.injEq, Prod.mk.injEq, k_of, k_add, k_sub, k_mul, k_neg, lg_lt, lg_gt, lg_eq, b_0, b_J0, b_J1, b_retZ, k0, k1, k2, k3, k10, k19, k20, k30, k40, k999, ↓dayC_b, ↓gsrC_b, ↓tenC_b, ↓zooC_b, ↓isqC_b, Int.add_sub_cancel, not_true, not_false_eq_true, jn1, a_len hA, a_byte hA, a_fk hA, a_fp hA, a_half hA, a_past hA, a_cd hA, a_cm hA, a_least hA, a_yes hA, a_no hA, a_nq hA, a_ng hA, a_nt hA, a_t1 hA, a_t2 hA, a_t3 hA, a_men hA]
      (repeat' split) <;> first | rfl | (exfalso; omega)
    · simp (disch := first | assumption | (simp only [SH_sI, SH_sL]; assumption) | omega) only [↓s_nm, ↓s_bnd2, ↓s_some, ↓s_suml, ↓s_sumr, ↓s_nz, ↓gi_q, ↓pi_q, ↓ck_q, ↓gi_gs, ↓gr_gs, ↓g_55_10, ↓g_55_11, ↓g_55_12, ↓g_55_13, ↓g_55_14, ↓g_55_15, ↓g_55_24, ↓g_55_28, ↓g_55_29, ↓g_55_30, ↓g_55_31, ↓g_55_32, ↓g_55_33, ↓g_55_34, ↓g_55_35, ↓g_55_36, ↓g_55_37, ↓g_55_38, ↓g_55_39, ↓g_55_40, ↓g_55_41, ↓g_55_42, ↓g_55_43, ↓g_55_44, ↓g_55_47, ↓g_55_48, ↓g_55_49, ↓g_55_50, ↓g_55_51, ↓g_55_52, ↓g_55_53, ↓g_55_54, ↓al_56, ↓al_57, ↓al_58, ↓al_59, ↓al_61, ↓al_62, ↓al_63, ↓al_64, ↓al_65, ↓al_66, ↓al_67, ↓al_68, ↓al_69, ↓al_70, ↓al_71, ↓al_72, ↓al_73, ↓al_74, ↓al_75, ↓al_76, ↓al_77, ↓al_78, ↓al_79, ↓al_80, ↓al_81, ↓al_82, ↓al_83, ↓al_84, ↓al_85, ↓al_86, ↓al_87, ↓as_56, ↓as_57, ↓as_58, ↓as_59, ↓as_61, ↓as_62, ↓as_63, ↓as_64, ↓as_65, ↓as_66, ↓as_67, ↓as_68, ↓as_69, ↓as_70, ↓as_71, ↓as_72, ↓as_73, ↓as_74, ↓as_75, ↓as_76, ↓as_77, ↓as_78, ↓as_79, ↓as_80, ↓as_81, ↓as_82, ↓as_83, ↓as_84, ↓as_85, ↓as_86, ↓as_87, ↓gi_55, ↓pi_55, ↓ck_55, ↓gi_60, ↓pi_60, ↓ck_60, j0, j1, j2, j3, j4, j5, j6, j7, j8, j9, j10, j11, j12, j13, j14, j15, j16, j17, j18, j19, j20, j21, j24, j25, j30, j31, j32, j36, j41, j48, j49, j57, j59, j60, j63, j64, j81, j97, j99, j100, j122, j255, j300, j400, j500, j999, j1000, j24000, j_add, j_sub, j_mul, j_neg, j_lt, j_le, j_eq, mI_sI, mR_sI, mN_sI, mI_sR, mR_sR, mN_sR, Int.toNat_natCast, true_and, and_true, false_and, and_false, if_true, if_false, reduceIte, Nat.reduceEqDiff, Option.some.injEq, Prod.mk.injEq, k_of, k_add, k_sub, k_mul, k_neg, lg_lt, lg_gt, lg_eq, b_0, b_J0, b_J1, b_retZ, k0, k1, k2, k3, k10, k19, k20, k30, k40, k999, ↓in_b, ↓dayM_b, ↓gsrM_b, ↓isqM_b, Int.add_sub_cancel, not_true, not_false_eq_true, jn1, m_55_0 hM, m_55_1 hM, m_55_2 hM, m_55_3 hM, m_55_4 hM, m_55_25 hM, m_55_26 hM, m_55_16 hM, m_55_22 hM, m_55_23 hM, m_55_27 hM, m_56 hM, m_57 hM, m_63 hM, m_64 hM, m_65 hM, m_66 hM, m_67 hM, m_68 hM, m_69 hM, m_70 hM, m_61 hM, m_71 hM, m_72 hM, m_73 hM, m_84 hM]
      (repeat' split) <;> first | rfl | (exfalso; omega)
end HELD
