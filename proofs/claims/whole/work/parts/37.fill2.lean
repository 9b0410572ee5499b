/-! costs: the class's tables -/
theorem ten_ne {C : Sp} (hC : OkC C) {g q : Nat} {d : Int} {m : Nat} (hm : m ≤ nG C) : tenOf C (lastD C g q d m) = -1 ↔ lastD C g q d m = none := by
  cases h : lastD C g q d m with
  | none => exact ⟨fun _ => rfl, fun _ => rfl⟩
  | some i =>
    have ok := okg hC (k := i) (by have := (lastD_some _ h).1; omega)
    refine ⟨fun e => ?_, fun e => by cases e⟩
    have : C 70 i = -1 := e
    omega
theorem rowOn_rng {C : Sp} (hC : OkC C) (g q : Nat) (d : Int) : -1 ≤ rowOn C g q d ∧ rowOn C g q d ≤ 1000 := by
  unfold rowOn
  have hr : -1 ≤ hl C g q d ∧ hl C g q d ≤ 10 := hl_rng hC g q d (Nat.le_refl _)
  by_cases h1 : lastD C g q 1000 (nG C) = none
  · rw [if_pos h1]; omega
  · rw [if_neg h1]
    by_cases h2 : hl C g q d = -1 ∧ C 55 0 = 0
    · rw [if_pos h2]; omega
    · rw [if_neg h2]
      by_cases h3 : hl C g q d = -1
      · rw [if_pos h3]
        have := cost_rng hC (q := q) (t := 5) (by omega) (by omega)
        omega
      · rw [if_neg h3]
        have := cost_rng hC (q := q) (t := hl C g q d) (by omega) (by omega)
        omega
section FILL2
variable {C D : Sp} {n : Nat} {u u' : Mem} {β : Type} {g q c : Nat} {d a b t : Int}
theorem fillC (hS : SH u) (hC : OkC C) (hA : RCa C D u) (hQ : RCq C u) (hG : RCg C u) (hg : g < 20) (hq : q < nQ C) (hc : c = g * 20 + q) : ∃ u', fX1_fillRows 34 (J c) (some (14 + q)) u = some u' ∧ Fr (PR c) u u' ∧ mI u' 35 c = J (rowN C g q) ∧ mI u' 36 c = J (rowS C g q) := by
  have hqq := hC.q
  have hgg := hC.g
  have hc4 : c < 400 := by omega
  have oq := okq hC hq
  have er := ed_rng hC hq
  have f1 : Fr (PR c) u (sI (sI u 35 c (J 0)) 36 c (J 0)) := (Fr.rfl.sI ⟨Or.inl rfl, rfl⟩).sI ⟨Or.inr rfl, rfl⟩
  have s1 : SH (sI (sI u 35 c (J 0)) 36 c (J 0)) := hS
  have hA1 := RCa_fr f1 (fun _ _ => PR_le) hA
  have hQ1 := RCq_fr f1 (fun _ _ => PR_le) hC hQ
  have hG1 := RCg_fr f1 (fun _ _ => PR_le) hG
  have eL : mR u 12 c = cel (lastD C g q 1000 (nG C)) := by rw [hc]; exact hG.2.2.1 g q hg (by omega)
  cases hL : lastD C g q 1000 (nG C) with
  | none =>
    rw [hL] at eL
    refine ⟨_, ?_, f1, ?_, ?_⟩
    · unfold fX1_fillRows
      simp (disch := first | assumption | (simp only [SH_sI, SH_sL]; assumption) | (simp only [mN_sI, mN_sL, mN_sR]; assumption) | omega) only [↓s_nm, ↓s_bnd2, ↓s_some, ↓s_suml, ↓s_sumr, ↓s_nz, ↓gi_q, ↓pi_q, ↓ck_q, ↓gi_gs, ↓gr_gs, ↓g_0_0, ↓g_0_1, ↓g_0_2, ↓g_0_3, ↓g_0_4, ↓g_0_5, ↓g_0_6, ↓g_0_7, ↓g_1_0, ↓g_3_0, ↓g_3_3, ↓g_4_0, ↓g_4_1, ↓g_7_0, ↓g_7_1, ↓g_10_0, ↓g_10_1, ↓g_10_2, ↓g_34_0, ↓g_34_1, ↓g_34_2, ↓g_34_3, ↓g_34_4, ↓g_34_5, ↓g_39_2, ↓g_39_3, ↓g_39_4, ↓g_39_5, ↓g_39_6, ↓g_39_7, ↓g_39_8, ↓g_39_9, ↓g_45_0, ↓g_45_1, ↓g_45_2, ↓g_45_4, ↓g_49_0, ↓g_49_1, ↓g_49_2, ↓g_49_3, ↓g_49_4, ↓g_49_5, ↓g_49_6, ↓al_2, ↓al_5, ↓al_6, ↓al_8, ↓al_9, ↓al_11, ↓al_12, ↓al_13, ↓al_35, ↓al_36, ↓al_37, ↓al_38, ↓al_40, ↓al_41, ↓al_42, ↓al_43, ↓al_44, ↓al_46, ↓al_47, ↓al_48, ↓al_50, ↓al_51, ↓al_52, ↓al_53, ↓al_54, ↓as_2, ↓as_5, ↓as_6, ↓as_8, ↓as_9, ↓as_12, ↓as_13, ↓as_35, ↓as_36, ↓as_37, ↓as_38, ↓as_40, ↓as_41, ↓as_42, ↓as_43, ↓as_44, ↓as_46, ↓as_47, ↓as_48, ↓as_50, ↓as_51, ↓as_52, ↓as_53, ↓as_54, ↓gi_0, ↓pi_0, ↓ck_0, ↓gi_1, ↓pi_1, ↓ck_1, ↓gi_3, ↓pi_3, ↓ck_3, ↓gi_4, ↓pi_4, ↓ck_4, ↓gi_7, ↓pi_7, ↓ck_7, ↓gi_10, ↓pi_10, ↓ck_10, ↓gi_34, ↓pi_34, ↓ck_34, ↓gi_39, ↓pi_39, ↓ck_39, ↓gi_45, ↓pi_45, ↓ck_45, ↓gi_49, ↓pi_49, ↓ck_49, j0, j1, j2, j3, j4, j5, j6, j7, j8, j9, j10, j11, j12, j13, j14, j15, j16, j17, j18, j19, j20, j21, j24, j25, j30, j31, j32, j36, j41, j48, j49, j57, j59, j60, j63, j64, j81, j97, j99, j100, j122, j255, j300, j400, j500, j999, j1000, j24000, j_add, j_sub, j_mul, j_neg, j_lt, j_le, j_eq, mI_sI, mR_sI, mN_sI, mI_sR, mR_sR, mN_sR, Int.toNat_natCast, true_and, and_true, false_and, and_false, if_true, if_false, reduceIte, Nat.reduceEqDiff, Option.some.injEq, Prod.mk.injEq, k_of, k_add, k_sub, k_mul, k_neg, lg_lt, lg_gt, lg_eq, b_0, b_J0, b_J1, b_retZ, k0, k1, k2, k3, k10, k19, k20, k30, k40, k999, ↓dayC_b, ↓gsrC_b, ↓tenC_b, ↓zooC_b, ↓isqC_b, Int.add_sub_cancel, not_true, not_false_eq_true, jn1, eL, show cel none = none from rfl]
    · have : rowN C g q = 0 := by
        unfold rowN
        rw [sm_const (c := 0) _ fun d _ _ => ?_]
        · omega
        · unfold rowOn
          rw [if_pos hL]; rfl
      rw [this]
      simp [mI_sI]
    · have : rowS C g q = 0 := by
        unfold rowS
        rw [sm_const (c := 0) _ fun d _ _ => ?_]
        · omega
        · unfold rowOn
          rw [if_pos hL]; rfl
      rw [this]
      simp [mI_sI]
  | some i =>
    by_cases hk : C 65 q < 2
    · have hks := oq.2.2.2 hk
      obtain ⟨e', v', x1, x2, x3, x4, x5, x6, x7, x8⟩ := fill_go (u := sI (sI u 35 c (J 0)) 36 c (J 0)) s1 hC hA1 hQ1 hG1 hg hq hc4 (nG C) FU (ed C q) 0 0 _ (Nat.le_refl _) (FU_gt (by omega)) Fr.rfl (by omega) (by omega) (by simp [mI_sI]) (by simp [mI_sI])
      have sv := x4.SH s1
      have hA2 := RCa_fr x4 (fun _ _ => PR_le) hA1
      have hQ2 := RCq_fr x4 (fun _ _ => PR_le) hC hQ1
      have hh := hC.2.2.2.2.2.2.1
      rw [hL] at eL x1
      have eh : fX1_fillRows 34 (J c) (some (14 + q)) u = if C 55 0 = 1 then some (sI (sI v' 35 c (mI v' 35 c + J (e' - C 63 q))) 36 c (mI v' 36 c + J ((e' - C 63 q) * cost C q 5))) else some v' := by
        unfold fX1_fillRows
        simp (disch := first | assumption | (simp only [SH_sI, SH_sL]; assumption) | (simp only [mN_sI, mN_sL, mN_sR]; assumption) | omega) only [↓s_nm, ↓s_bnd2, ↓s_some, ↓s_suml, ↓s_sumr, ↓s_nz, ↓gi_q, ↓pi_q, ↓ck_q, ↓gi_gs, ↓gr_gs, ↓g_0_0, ↓g_0_1, ↓g_0_2, ↓g_0_3, ↓g_0_4, ↓g_0_5, ↓g_0_6, ↓g_0_7, ↓g_1_0, ↓g_3_0, ↓g_3_3, ↓g_4_0, ↓g_4_1, ↓g_7_0, ↓g_7_1, ↓g_10_0, ↓g_10_1, ↓g_10_2, ↓g_34_0, ↓g_34_1, ↓g_34_2, ↓g_34_3, ↓g_34_4, ↓g_34_5, ↓g_39_2, ↓g_39_3, ↓g_39_4, ↓g_39_5, ↓g_39_6, ↓g_39_7, ↓g_39_8, ↓g_39_9, ↓g_45_0, ↓g_45_1, ↓g_45_2, ↓g_45_4, ↓g_49_0, ↓g_49_1, ↓g_49_2, ↓g_49_3, ↓g_49_4, ↓g_49_5, ↓g_49_6, ↓al_2, ↓al_5, ↓al_6, ↓al_8, ↓al_9, ↓al_11, ↓al_12, ↓al_13, ↓al_35, ↓al_36, ↓al_37, ↓al_38, ↓al_40, ↓al_41, ↓al_42, ↓al_43, ↓al_44, ↓al_46, ↓al_47, ↓al_48, ↓al_50, ↓al_51, ↓al_52, ↓al_53, ↓al_54, ↓as_2, ↓as_5, ↓as_6, ↓as_8, ↓as_9, ↓as_12, ↓as_13, ↓as_35, ↓as_36, ↓as_37, ↓as_38, ↓as_40, ↓as_41, ↓as_42, ↓as_43, ↓as_44, ↓as_46, ↓as_47, ↓as_48, ↓as_50, ↓as_51, ↓as_52, ↓as_53, ↓as_54, ↓gi_0, ↓pi_0, ↓ck_0, ↓gi_1, ↓pi_1, ↓ck_1, ↓gi_3, ↓pi_3, ↓ck_3, ↓gi_4, ↓pi_4, ↓ck_4, ↓gi_7, ↓pi_7, ↓ck_7, ↓gi_10, ↓pi_10, ↓ck_10, ↓gi_34, ↓pi_34, ↓ck_34, ↓gi_39, ↓pi_39, ↓ck_39, ↓gi_45, ↓pi_45, ↓ck_45, ↓gi_49, ↓pi_49, ↓ck_49, j0, j1, j2, j3, j4, j5, j6, j7, j8, j9, j10, j11, j12, j13, j14, j15, j16, j17, j18, j19, j20, j21, j24, j25, j30, j31, j32, j36, j41, j48, j49, j57, j59, j60, j63, j64, j81, j97, j99, j100, j122, j255, j300, j400, j500, j999, j1000, j24000, j_add, j_sub, j_mul, j_neg, j_lt, j_le, j_eq, mI_sI, mR_sI, mN_sI, mI_sR, mR_sR, mN_sR, Int.toNat_natCast, true_and, and_true, false_and, and_false, if_true, if_false, reduceIte, Nat.reduceEqDiff, Option.some.injEq, Prod.mk.injEq, k_of, k_add, k_sub, k_mul, k_neg, lg_lt, lg_gt, lg_eq, b_0, b_J0, b_J1, b_retZ, k0, k1, k2, k3, k10, k19, k20, k30, k40, k999, ↓dayC_b, ↓gsrC_b, ↓tenC_b, ↓zooC_b, ↓isqC_b, Int.add_sub_cancel, not_true, not_false_eq_true, jn1, eL, show cel (some i) = some (88 + i) from rfl, ↓setC, ↓edC, hk, reduceCtorEq]
        rw [show cel (some i) = some (88 + i) from rfl] at x1
        rw [x1]
        by_cases h1 : C 55 0 = 1
        · simp (disch := first | assumption | (simp only [SH_sI, SH_sL]; assumption) | (simp only [mN_sI, mN_sL, mN_sR]; assumption) | omega) only [↓s_nm, ↓s_bnd2, ↓s_some, ↓s_suml, ↓s_sumr, ↓s_nz, ↓gi_q, ↓pi_q, ↓ck_q, ↓gi_gs, ↓gr_gs, ↓g_0_0, ↓g_0_1, ↓g_0_2, ↓g_0_3, ↓g_0_4, ↓g_0_5, ↓g_0_6, ↓g_0_7, ↓g_1_0, ↓g_3_0, ↓g_3_3, ↓g_4_0, ↓g_4_1, ↓g_7_0, ↓g_7_1, ↓g_10_0, ↓g_10_1, ↓g_10_2, ↓g_34_0, ↓g_34_1, ↓g_34_2, ↓g_34_3, ↓g_34_4, ↓g_34_5, ↓g_39_2, ↓g_39_3, ↓g_39_4, ↓g_39_5, ↓g_39_6, ↓g_39_7, ↓g_39_8, ↓g_39_9, ↓g_45_0, ↓g_45_1, ↓g_45_2, ↓g_45_4, ↓g_49_0, ↓g_49_1, ↓g_49_2, ↓g_49_3, ↓g_49_4, ↓g_49_5, ↓g_49_6, ↓al_2, ↓al_5, ↓al_6, ↓al_8, ↓al_9, ↓al_11, ↓al_12, ↓al_13, ↓al_35, ↓al_36, ↓al_37, ↓al_38, ↓al_40, ↓al_41, ↓al_42, ↓al_43, ↓al_44, ↓al_46, ↓al_47, ↓al_48, ↓al_50, ↓al_51, ↓al_52, ↓al_53, ↓al_54, ↓as_2, ↓as_5, ↓as_6, ↓as_8, ↓as_9, ↓as_12, ↓as_13, ↓as_35, ↓as_36, ↓as_37, ↓as_38, ↓as_40, ↓as_41, ↓as_42, ↓as_43, ↓as_44, ↓as_46, ↓as_47, ↓as_48, ↓as_50, ↓as_51, ↓as_52, ↓as_53, ↓as_54, ↓gi_0, ↓pi_0, ↓ck_0, ↓gi_1, ↓pi_1, ↓ck_1, ↓gi_3, ↓pi_3, ↓ck_3, ↓gi_4, ↓pi_4, ↓ck_4, ↓gi_7, ↓pi_7, ↓ck_7, ↓gi_10, ↓pi_10, ↓ck_10, ↓gi_34, ↓pi_34, ↓ck_34, ↓gi_39, ↓pi_39, ↓ck_39, ↓gi_45, ↓pi_45, ↓ck_45, ↓gi_49, ↓pi_49, ↓ck_49, j0, j1, j2, j3, j4, j5, j6, j7, j8, j9, j10, j11, j12, j13, j14, j15, j16, j17, j18, j19, j20, j21, j24, j25, j30, j31, j32, j36, j41, j48, j49, j57, j59, j60, j63, j64, j81, j97, j99, j100, j122, j255, j300, j400, j500, j999, j1000, j24000, j_add, j_sub, j_mul, j_neg, j_lt, j_le, j_eq, mI_sI, mR_sI, mN_sI, mI_sR, mR_sR, mN_sR, Int.toNat_natCast, true_and, and_true, false_and, and_false, if_true, if_false, reduceIte, Nat.reduceEqDiff, Option.some.injEq, Prod.mk.injEq, k_of, k_add, k_sub, k_mul, k_neg, lg_lt, lg_gt, lg_eq, b_0, b_J0, b_J1, b_retZ, k0, k1, k2, k3, k10, k19, k20, k30, k40, k999, ↓dayC_b, ↓gsrC_b, ↓tenC_b, ↓zooC_b, ↓isqC_b, Int.add_sub_cancel, not_true, not_false_eq_true, jn1, ↓halfC, h1, q_0 hQ2 q hq, q_2 hQ2 q hq, ↓costC, ↓addC]
        · simp (disch := first | assumption | (simp only [SH_sI, SH_sL]; assumption) | (simp only [mN_sI, mN_sL, mN_sR]; assumption) | omega) only [↓s_nm, ↓s_bnd2, ↓s_some, ↓s_suml, ↓s_sumr, ↓s_nz, ↓gi_q, ↓pi_q, ↓ck_q, ↓gi_gs, ↓gr_gs, ↓g_0_0, ↓g_0_1, ↓g_0_2, ↓g_0_3, ↓g_0_4, ↓g_0_5, ↓g_0_6, ↓g_0_7, ↓g_1_0, ↓g_3_0, ↓g_3_3, ↓g_4_0, ↓g_4_1, ↓g_7_0, ↓g_7_1, ↓g_10_0, ↓g_10_1, ↓g_10_2, ↓g_34_0, ↓g_34_1, ↓g_34_2, ↓g_34_3, ↓g_34_4, ↓g_34_5, ↓g_39_2, ↓g_39_3, ↓g_39_4, ↓g_39_5, ↓g_39_6, ↓g_39_7, ↓g_39_8, ↓g_39_9, ↓g_45_0, ↓g_45_1, ↓g_45_2, ↓g_45_4, ↓g_49_0, ↓g_49_1, ↓g_49_2, ↓g_49_3, ↓g_49_4, ↓g_49_5, ↓g_49_6, ↓al_2, ↓al_5, ↓al_6, ↓al_8, ↓al_9, ↓al_11, ↓al_12, ↓al_13, ↓al_35, ↓al_36, ↓al_37, ↓al_38, ↓al_40, ↓al_41, ↓al_42, ↓al_43, ↓al_44, ↓al_46, ↓al_47, ↓al_48, ↓al_50, ↓al_51, ↓al_52, ↓al_53, ↓al_54, ↓as_2, ↓as_5, ↓as_6, ↓as_8, ↓as_9, ↓as_12, ↓as_13, ↓as_35, ↓as_36, ↓as_37, ↓as_38, ↓as_40, ↓as_41, ↓as_42, ↓as_43, ↓as_44, ↓as_46, ↓as_47, ↓as_48, ↓as_50, ↓as_51, ↓as_52, ↓as_53, ↓as_54, ↓gi_0, ↓pi_0, ↓ck_0, ↓gi_1, ↓pi_1, ↓ck_1, ↓gi_3, ↓pi_3, ↓ck_3, ↓gi_4, ↓pi_4, ↓ck_4, ↓gi_7, ↓pi_7, ↓ck_7, ↓gi_10, ↓pi_10, ↓ck_10, ↓gi_34, ↓pi_34, ↓ck_34, ↓gi_39, ↓pi_39, ↓ck_39, ↓gi_45, ↓pi_45, ↓ck_45, ↓gi_49, ↓pi_49, ↓ck_49, j0, j1, j2, j3, j4, j5, j6, j7, j8, j9, j10, j11, j12, j13, j14, j15, j16, j17, j18, j19, j20, j21, j24, j25, j30, j31, j32, j36, j41, j48, j49, j57, j59, j60, j63, j64, j81, j97, j99, j100, j122, j255, j300, j400, j500, j999, j1000, j24000, j_add, j_sub, j_mul, j_neg, j_lt, j_le, j_eq, mI_sI, mR_sI, mN_sI, mI_sR, mR_sR, mN_sR, Int.toNat_natCast, true_and, and_true, false_and, and_false, if_true, if_false, reduceIte, Nat.reduceEqDiff, Option.some.injEq, Prod.mk.injEq, k_of, k_add, k_sub, k_mul, k_neg, lg_lt, lg_gt, lg_eq, b_0, b_J0, b_J1, b_retZ, k0, k1, k2, k3, k10, k19, k20, k30, k40, k999, ↓dayC_b, ↓gsrC_b, ↓tenC_b, ↓zooC_b, ↓isqC_b, Int.add_sub_cancel, not_true, not_false_eq_true, jn1, ↓halfC, h1]
      have hlow : ∀ d, d < e' → hl C g q d = -1 := fun d hd => (ten_ne hC (Nat.le_refl _)).mpr (x8 d hd)
      have hhi : ∀ d, e' ≤ d → d < ed C q → hl C g q d ≠ -1 := fun d h1 h2 h3 => x7 d h1 h2 ((ten_ne hC (Nat.le_refl _)).mp h3)
      have hLn : ¬ (lastD C g q 1000 (nG C) = none) := by rw [hL]; simp
      have rhi : ∀ d, e' ≤ d → d < ed C q → rowOn C g q d = cost C q (hl C g q d) := by
        intro d h1 h2
        unfold rowOn
        rw [if_neg hLn, if_neg fun h => hhi d h1 h2 h.1, if_neg (hhi d h1 h2)]
      have chi : ∀ d, e' ≤ d → d < ed C q → 0 ≤ cost C q (hl C g q d) := by
        intro d h1 h2
        have h3 := hhi d h1 h2
        have hr : -1 ≤ hl C g q d ∧ hl C g q d ≤ 10 := hl_rng hC g q d (Nat.le_refl _)
        exact (cost_rng hC (by omega) hr.2).1
      have elen : lenR C q = (e' - C 63 q).toNat + (ed C q - e').toNat := by omega
      have eN : rowN C g q = sm (fun d => if rowOn C g q d = -1 then 0 else 1) (C 63 q) (e' - C 63 q).toNat + (ed C q - e') := by
        unfold rowN
        rw [elen, sm_split, show C 63 q + ((e' - C 63 q).toNat : Int) = e' by omega, sm_const (c := 1) (ed C q - e').toNat fun d h1 h2 => ?_]
        · omega
        · have := chi d h1 (by omega)
          rw [if_neg]
          rw [rhi d h1 (by omega)]
          omega
      have eS : rowS C g q = sm (fun d => if rowOn C g q d = -1 then 0 else rowOn C g q d) (C 63 q) (e' - C 63 q).toNat + sm (fun d => cost C q (tenOf C (lastD C g q d (nG C)))) e' (ed C q - e').toNat := by
        unfold rowS
        rw [elen, sm_split, show C 63 q + ((e' - C 63 q).toNat : Int) = e' by omega]
        congr 1
        refine sm_congr _ fun d h1 h2 => ?_
        have := chi d h1 (by omega)
        rw [rhi d h1 (by omega), if_neg (by omega)]
        rfl
      by_cases h1 : C 55 0 = 1
      · rw [if_pos h1] at eh
        have c5 := cost_rng hC (q := q) (t := 5) (by omega) (by omega)
        have rlo : ∀ d, d < e' → rowOn C g q d = cost C q 5 := by
          intro d hd
          unfold rowOn
          rw [if_neg hLn, if_neg (by omega), if_pos (hlow d hd)]
        refine ⟨_, eh, f1.trans ((x4.sI ⟨Or.inl rfl, rfl⟩).sI ⟨Or.inr rfl, rfl⟩), ?_, ?_⟩
        · rw [eN, sm_const (c := 1) (e' - C 63 q).toNat fun d h2 h3 => by rw [rlo d (by omega), if_neg (by omega)]]
          simp only [mI_sI, x5, j_add]
          simp
          congr 1
          omega
        · rw [eS, sm_const (c := cost C q 5) (e' - C 63 q).toNat fun d h2 h3 => by rw [rlo d (by omega), if_neg (by omega)]]
          simp only [mI_sI, x6, j_add]
          simp
          congr 1
          rw [show max (e' - C 63 q) 0 = e' - C 63 q by omega]
          omega
      · rw [if_neg h1] at eh
        have rlo : ∀ d, d < e' → rowOn C g q d = -1 := by
          intro d hd
          unfold rowOn
          rw [if_neg hLn, if_pos ⟨hlow d hd, by omega⟩]
        refine ⟨_, eh, f1.trans x4, ?_, ?_⟩
        · rw [eN, sm_const (c := 0) (e' - C 63 q).toNat fun d h2 h3 => by rw [rlo d (by omega), if_pos rfl], x5]
          congr 1
          first | done | omega
        · rw [eS, sm_const (c := 0) (e' - C 63 q).toNat fun d h2 h3 => by rw [rlo d (by omega), if_pos rfl], x6]
          congr 1
          first | done | omega
    · refine ⟨_, ?_, f1, ?_, ?_⟩
      · unfold fX1_fillRows
        rw [hL] at eL
        simp (disch := first | assumption | (simp only [SH_sI, SH_sL]; assumption) | (simp only [mN_sI, mN_sL, mN_sR]; assumption) | omega) only [↓s_nm, ↓s_bnd2, ↓s_some, ↓s_suml, ↓s_sumr, ↓s_nz, ↓gi_q, ↓pi_q, ↓ck_q, ↓gi_gs, ↓gr_gs, ↓g_0_0, ↓g_0_1, ↓g_0_2, ↓g_0_3, ↓g_0_4, ↓g_0_5, ↓g_0_6, ↓g_0_7, ↓g_1_0, ↓g_3_0, ↓g_3_3, ↓g_4_0, ↓g_4_1, ↓g_7_0, ↓g_7_1, ↓g_10_0, ↓g_10_1, ↓g_10_2, ↓g_34_0, ↓g_34_1, ↓g_34_2, ↓g_34_3, ↓g_34_4, ↓g_34_5, ↓g_39_2, ↓g_39_3, ↓g_39_4, ↓g_39_5, ↓g_39_6, ↓g_39_7, ↓g_39_8, ↓g_39_9, ↓g_45_0, ↓g_45_1, ↓g_45_2, ↓g_45_4, ↓g_49_0, ↓g_49_1, ↓g_49_2, ↓g_49_3, ↓g_49_4, ↓g_49_5, ↓g_49_6, ↓al_2, ↓al_5, ↓al_6, ↓al_8, ↓al_9, ↓al_11, ↓al_12, ↓al_13, ↓al_35, ↓al_36, ↓al_37, ↓al_38, ↓al_40, ↓al_41, ↓al_42, ↓al_43, ↓al_44, ↓al_46, ↓al_47, ↓al_48, ↓al_50, ↓al_51, ↓al_52, ↓al_53, ↓al_54, ↓as_2, ↓as_5, ↓as_6, ↓as_8, ↓as_9, ↓as_12, ↓as_13, ↓as_35, ↓as_36, ↓as_37, ↓as_38, ↓as_40, ↓as_41, ↓as_42, ↓as_43, ↓as_44, ↓as_46, ↓as_47, ↓as_48, ↓as_50, ↓as_51, ↓as_52, ↓as_53, ↓as_54, ↓gi_0, ↓pi_0, ↓ck_0, ↓gi_1, ↓pi_1, ↓ck_1, ↓gi_3, ↓pi_3, ↓ck_3, ↓gi_4, ↓pi_4, ↓ck_4, ↓gi_7, ↓pi_7, ↓ck_7, ↓gi_10, ↓pi_10, ↓ck_10, ↓gi_34, ↓pi_34, ↓ck_34, ↓gi_39, ↓pi_39, ↓ck_39, ↓gi_45, ↓pi_45, ↓ck_45, ↓gi_49, ↓pi_49, ↓ck_49, j0, j1, j2, j3, j4, j5, j6, j7, j8, j9, j10, j11, j12, j13, j14, j15, j16, j17, j18, j19, j20, j21, j24, j25, j30, j31, j32, j36, j41, j48, j49, j57, j59, j60, j63, j64, j81, j97, j99, j100, j122, j255, j300, j400, j500, j999, j1000, j24000, j_add, j_sub, j_mul, j_neg, j_lt, j_le, j_eq, mI_sI, mR_sI, mN_sI, mI_sR, mR_sR, mN_sR, Int.toNat_natCast, true_and, and_true, false_and, and_false, if_true, if_false, reduceIte, Nat.reduceEqDiff, Option.some.injEq, Prod.mk.injEq, k_of, k_add, k_sub, k_mul, k_neg, lg_lt, lg_gt, lg_eq, b_0, b_J0, b_J1, b_retZ, k0, k1, k2, k3, k10, k19, k20, k30, k40, k999, ↓dayC_b, ↓gsrC_b, ↓tenC_b, ↓zooC_b, ↓isqC_b, Int.add_sub_cancel, not_true, not_false_eq_true, jn1, eL, show cel (some i) = some (88 + i) from rfl, ↓setC, hk, reduceCtorEq]
      · have : rowN C g q = 0 := by unfold rowN lenR; rw [if_neg hk]; rfl
        rw [this]
        simp [mI_sI]
      · have : rowS C g q = 0 := by unfold rowS lenR; rw [if_neg hk]; rfl
        rw [this]
        simp [mI_sI]
end FILL2
