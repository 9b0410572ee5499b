/-! the reference's prepare, whole -/
section PREP3
variable {C D : Sp} {n : Nat} {u u' : Mem} {β : Type} {g q c : Nat} {d a b t : Int} {P : Nat → Nat → Prop}
def RowAt (C : Sp) (g q : Nat) (u : Mem) : Prop := mI u 75 (20 * g + q) = J (rowN C g q) ∧ mI u 76 (20 * g + q) = J (rowS C g q) ∧ mI u 77 (20 * g + q) = J (rowN C g q * cost C q 5)
def ZAt (g q : Nat) (u : Mem) : Prop := mI u 75 (20 * g + q) = J 0 ∧ mI u 76 (20 * g + q) = J 0 ∧ mI u 77 (20 * g + q) = J 0
def P7 (g a k : Nat) : Prop := (75 ≤ a ∧ a ≤ 77) ∧ 20 * g ≤ k ∧ k < 20 * g + 20
theorem prep4in (hS : SH u) (hC : OkC C) (hM : RM C D u) (hH : HeldOK C (nG C) u) (hI : InOK C (nG C) u) (hg : g < 20) (hz : ∀ q, q < 20 → ZAt g q u) : ∃ v, lp (fun s : Int32 × Mem => bX12_prepare_171 55 (J g) s.1 s.2) FU ((0 : Int32), u) = some v ∧ Fr (P7 g) u v ∧ ∀ q, q < nQ C → RowAt C g q v := by
  have hqq := hC.q
  refine lp_inv (f := fun s : Int32 × Mem => bX12_prepare_171 55 (J g) s.1 s.2) (E := fun v => Fr (P7 g) u v ∧ ∀ q, q < nQ C → RowAt C g q v)
    (fun m s => s.1 = J (m : Nat) ∧ Fr (P7 g) u s.2 ∧ (∀ q, q < m → RowAt C g q s.2) ∧ ∀ q, m ≤ q → q < 20 → ZAt g q s.2) (nQ C) ⟨rfl, Fr.rfl, fun k hk => by omega, fun q _ hq => hz q hq⟩ ?_ ?_ (FU_gt (by omega))
  · rintro m ⟨s, v⟩ hm ⟨e1, e2, e3, e4⟩
    simp only at e1 e2 e3 e4
    subst e1
    have sv := e2.SH hS
    have hM1 := RM_fr e2 (fun a k h => PX_arr (by unfold P7 at h; omega)) hM
    have hH1 := HeldOK_fr hH e2 (fun a k h => by unfold P7 at h; omega)
    have hI1 := InOK_fr hI e2 (fun a k h => by unfold P7 at h; omega)
    have hzm := e4 m (Nat.le_refl _) (by omega)
    by_cases hk : C 65 m < 2
    · obtain ⟨w, x1, x2, x3, x4, x5⟩ := sumRM (g := g) (q := m) sv hC hM1 hH1 hI1 hg hm hk hzm.1 hzm.2.1 hzm.2.2
      refine ⟨(J (m + 1 : Nat), w), ?_, rfl, e2.trans (x2.mono fun a k h => by unfold P7; omega), fun q hq => ?_, fun q h1 h2 => ?_⟩
      · show bX12_prepare_171 55 (J g) (J m) v = _
        unfold bX12_prepare_171
        simp (disch := first | (simp only [SH_sIi, SH_sLi]; assumption) | assumption | (simp only [nN_sI, nN_sL, nN_sR]; assumption) | omega) only [↓s_nm, ↓s_bnd2, ↓s_some, ↓s_suml, ↓s_sumr, ↓s_nz, ↓gi_q, ↓pi_q, ↓ck_q, ↓gi_gs, ↓gr_gs, ↓g_55_10, ↓g_55_11, ↓g_55_12, ↓g_55_13, ↓g_55_14, ↓g_55_15, ↓g_55_24, ↓g_55_28, ↓g_55_29, ↓g_55_30, ↓g_55_31, ↓g_55_32, ↓g_55_33, ↓g_55_34, ↓g_55_35, ↓g_55_36, ↓g_55_37, ↓g_55_38, ↓g_55_39, ↓g_55_40, ↓g_55_41, ↓g_55_42, ↓g_55_43, ↓g_55_44, ↓g_55_47, ↓g_55_48, ↓g_55_49, ↓g_55_50, ↓g_55_51, ↓g_55_52, ↓g_55_53, ↓g_55_54, ↓al_56, ↓al_57, ↓al_58, ↓al_59, ↓al_61, ↓al_62, ↓al_63, ↓al_64, ↓al_65, ↓al_66, ↓al_67, ↓al_68, ↓al_69, ↓al_70, ↓al_71, ↓al_72, ↓al_73, ↓al_74, ↓al_75, ↓al_76, ↓al_77, ↓al_78, ↓al_79, ↓al_80, ↓al_81, ↓al_82, ↓al_83, ↓al_84, ↓al_85, ↓al_86, ↓al_87, ↓as_56, ↓as_57, ↓as_58, ↓as_59, ↓as_61, ↓as_62, ↓as_63, ↓as_64, ↓as_65, ↓as_66, ↓as_67, ↓as_68, ↓as_69, ↓as_70, ↓as_71, ↓as_72, ↓as_73, ↓as_74, ↓as_75, ↓as_76, ↓as_77, ↓as_78, ↓as_79, ↓as_80, ↓as_81, ↓as_82, ↓as_83, ↓as_84, ↓as_85, ↓as_86, ↓as_87, ↓gi_55, ↓pi_55, ↓ck_55, ↓gi_60, ↓pi_60, ↓ck_60, j0, j1, j2, j3, j4, j5, j6, j7, j8, j9, j10, j11, j12, j13, j14, j15, j16, j17, j18, j19, j20, j21, j24, j25, j30, j31, j32, j36, j41, j48, j49, j57, j59, j60, j63, j64, j81, j97, j99, j100, j122, j255, j300, j400, j500, j999, j1000, j24000, j_add, j_sub, j_mul, j_neg, j_lt, j_le, j_eq, nI_sI, nR_sI, nN_sI, nI_sR, nR_sR, nN_sR, Int.toNat_natCast, true_and, and_true, false_and, and_false, if_true, if_false, reduceIte, Nat.reduceEqDiff, Option.some.injEq, Prod.mk.injEq, k_of, k_add, k_sub, k_mul, k_neg, lg_lt, lg_gt, lg_eq, b_0, b_J0, b_J1, b_retZ, k0, k1, k2, k3, k10, k19, k20, k30, k40, k999, ↓in_b, ↓dayM_b, ↓gsrM_b, ↓isqM_b, Int.add_sub_cancel, not_true, not_false_eq_true, jn1, Bool.false_eq_true, Bool.true_eq_false, reduceCtorEq, m_55_0 hM1, m_55_1 hM1, m_55_2 hM1, m_55_3 hM1, m_55_4 hM1, m_55_25 hM1, m_55_26 hM1, m_55_16 hM1, m_55_22 hM1, m_55_23 hM1, m_55_27 hM1, m_56 hM1, m_57 hM1, m_63 hM1, m_64 hM1, m_65 hM1, m_66 hM1, m_67 hM1, m_68 hM1, m_69 hM1, m_70 hM1, m_61 hM1, m_71 hM1, m_72 hM1, m_73 hM1, m_84 hM1, show (m : Int) < C 55 25 by omega, ↓knwM, hk]
        rw [x1]
        rfl
      · by_cases hqm : q = m
        · subst hqm; exact ⟨x3, x4, x5⟩
        · have := e3 q (by omega)
          unfold RowAt at this ⊢
          show mI w _ _ = _ ∧ mI w _ _ = _ ∧ mI w _ _ = _
          rw [x2.2.2 _ _ (by omega), x2.2.2 _ _ (by omega), x2.2.2 _ _ (by omega)]
          exact this
      · have := e4 q (by omega) h2
        unfold ZAt at this ⊢
        show mI w _ _ = _ ∧ mI w _ _ = _ ∧ mI w _ _ = _
        rw [x2.2.2 _ _ (by omega), x2.2.2 _ _ (by omega), x2.2.2 _ _ (by omega)]
        exact this
    · refine ⟨(J (m + 1 : Nat), v), ?_, rfl, e2, fun q hq => ?_, fun q h1 h2 => e4 q (by omega) h2⟩
      · show bX12_prepare_171 55 (J g) (J m) v = _
        unfold bX12_prepare_171
        simp (disch := first | (simp only [SH_sIi, SH_sLi]; assumption) | assumption | (simp only [nN_sI, nN_sL, nN_sR]; assumption) | omega) only [↓s_nm, ↓s_bnd2, ↓s_some, ↓s_suml, ↓s_sumr, ↓s_nz, ↓gi_q, ↓pi_q, ↓ck_q, ↓gi_gs, ↓gr_gs, ↓g_55_10, ↓g_55_11, ↓g_55_12, ↓g_55_13, ↓g_55_14, ↓g_55_15, ↓g_55_24, ↓g_55_28, ↓g_55_29, ↓g_55_30, ↓g_55_31, ↓g_55_32, ↓g_55_33, ↓g_55_34, ↓g_55_35, ↓g_55_36, ↓g_55_37, ↓g_55_38, ↓g_55_39, ↓g_55_40, ↓g_55_41, ↓g_55_42, ↓g_55_43, ↓g_55_44, ↓g_55_47, ↓g_55_48, ↓g_55_49, ↓g_55_50, ↓g_55_51, ↓g_55_52, ↓g_55_53, ↓g_55_54, ↓al_56, ↓al_57, ↓al_58, ↓al_59, ↓al_61, ↓al_62, ↓al_63, ↓al_64, ↓al_65, ↓al_66, ↓al_67, ↓al_68, ↓al_69, ↓al_70, ↓al_71, ↓al_72, ↓al_73, ↓al_74, ↓al_75, ↓al_76, ↓al_77, ↓al_78, ↓al_79, ↓al_80, ↓al_81, ↓al_82, ↓al_83, ↓al_84, ↓al_85, ↓al_86, ↓al_87, ↓as_56, ↓as_57, ↓as_58, ↓as_59, ↓as_61, ↓as_62, ↓as_63, ↓as_64, ↓as_65, ↓as_66, ↓as_67, ↓as_68, ↓as_69, ↓as_70, ↓as_71, ↓as_72, ↓as_73, ↓as_74, ↓as_75, ↓as_76, ↓as_77, ↓as_78, ↓as_79, ↓as_80, ↓as_81, ↓as_82, ↓as_83, ↓as_84, ↓as_85, ↓as_86, ↓as_87, ↓gi_55, ↓pi_55, ↓ck_55, ↓gi_60, ↓pi_60, ↓ck_60, j0, j1, j2, j3, j4, j5, j6, j7, j8, j9, j10, j11, j12, j13, j14, j15, j16, j17, j18, j19, j20, j21, j24, j25, j30, j31, j32, j36, j41, j48, j49, j57, j59, j60, j63, j64, j81, j97, j99, j100, j122, j255, j300, j400, j500, j999, j1000, j24000, j_add, j_sub, j_mul, j_neg, j_lt, j_le, j_eq, nI_sI, nR_sI, nN_sI, nI_sR, nR_sR, nN_sR, Int.toNat_natCast, true_and, and_true, false_and, and_false, if_true, if_false, reduceIte, Nat.reduceEqDiff, Option.some.injEq, Prod.mk.injEq, k_of, k_add, k_sub, k_mul, k_neg, lg_lt, lg_gt, lg_eq, b_0, b_J0, b_J1, b_retZ, k0, k1, k2, k3, k10, k19, k20, k30, k40, k999, ↓in_b, ↓dayM_b, ↓gsrM_b, ↓isqM_b, Int.add_sub_cancel, not_true, not_false_eq_true, jn1, Bool.false_eq_true, Bool.true_eq_false, reduceCtorEq, m_55_0 hM1, m_55_1 hM1, m_55_2 hM1, m_55_3 hM1, m_55_4 hM1, m_55_25 hM1, m_55_26 hM1, m_55_16 hM1, m_55_22 hM1, m_55_23 hM1, m_55_27 hM1, m_56 hM1, m_57 hM1, m_63 hM1, m_64 hM1, m_65 hM1, m_66 hM1, m_67 hM1, m_68 hM1, m_69 hM1, m_70 hM1, m_61 hM1, m_71 hM1, m_72 hM1, m_73 hM1, m_84 hM1, show (m : Int) < C 55 25 by omega, ↓knwM, hk]
      · by_cases hqm : q = m
        · subst hqm
          have z1 : rowN C g q = 0 := by unfold rowN lenR; rw [if_neg hk]; rfl
          have z2 : rowS C g q = 0 := by unfold rowS lenR; rw [if_neg hk]; rfl
          unfold RowAt
          rw [z1, z2, Int.zero_mul]
          exact hzm
        · exact e3 q (by omega)
  · rintro ⟨s, v⟩ ⟨e1, e2, e3, e4⟩
    simp only at e1 e2 e3 e4
    subst e1
    have sv := e2.SH hS
    have hM1 := RM_fr e2 (fun a k h => PX_arr (by unfold P7 at h; omega)) hM
    refine ⟨v, ?_, e2, e3⟩
    show bX12_prepare_171 55 (J g) (J (nQ C : Nat)) v = _
    unfold bX12_prepare_171
    simp (disch := first | (simp only [SH_sIi, SH_sLi]; assumption) | assumption | (simp only [nN_sI, nN_sL, nN_sR]; assumption) | omega) only [↓s_nm, ↓s_bnd2, ↓s_some, ↓s_suml, ↓s_sumr, ↓s_nz, ↓gi_q, ↓pi_q, ↓ck_q, ↓gi_gs, ↓gr_gs, ↓g_55_10, ↓g_55_11, ↓g_55_12, ↓g_55_13, ↓g_55_14, ↓g_55_15, ↓g_55_24, ↓g_55_28, ↓g_55_29, ↓g_55_30, ↓g_55_31, ↓g_55_32, ↓g_55_33, ↓g_55_34, ↓g_55_35, ↓g_55_36, ↓g_55_37, ↓g_55_38, ↓g_55_39, ↓g_55_40, ↓g_55_41, ↓g_55_42, ↓g_55_43, ↓g_55_44, ↓g_55_47, ↓g_55_48, ↓g_55_49, ↓g_55_50, ↓g_55_51, ↓g_55_52, ↓g_55_53, ↓g_55_54, ↓al_56, ↓al_57, ↓al_58, ↓al_59, ↓al_61, ↓al_62, ↓al_63, ↓al_64, ↓al_65, ↓al_66, ↓al_67, ↓al_68, ↓al_69, ↓al_70, ↓al_71, ↓al_72, ↓al_73, ↓al_74, ↓al_75, ↓al_76, ↓al_77, ↓al_78, ↓al_79, ↓al_80, ↓al_81, ↓al_82, ↓al_83, ↓al_84, ↓al_85, ↓al_86, ↓al_87, ↓as_56, ↓as_57, ↓as_58, ↓as_59, ↓as_61, ↓as_62, ↓as_63, ↓as_64, ↓as_65, ↓as_66, ↓as_67, ↓as_68, ↓as_69, ↓as_70, ↓as_71, ↓as_72, ↓as_73, ↓as_74, ↓as_75, ↓as_76, ↓as_77, ↓as_78, ↓as_79, ↓as_80, ↓as_81, ↓as_82, ↓as_83, ↓as_84, ↓as_85, ↓as_86, ↓as_87, ↓gi_55, ↓pi_55, ↓ck_55, ↓gi_60, ↓pi_60, ↓ck_60, j0, j1, j2, j3, j4, j5, j6, j7, j8, j9, j10, j11, j12, j13, j14, j15, j16, j17, j18, j19, j20, j21, j24, j25, j30, j31, j32, j36, j41, j48, j49, j57, j59, j60, j63, j64, j81, j97, j99, j100, j122, j255, j300, j400, j500, j999, j1000, j24000, j_add, j_sub, j_mul, j_neg, j_lt, j_le, j_eq, nI_sI, nR_sI, nN_sI, nI_sR, nR_sR, nN_sR, Int.toNat_natCast, true_and, and_true, false_and, and_false, if_true, if_false, reduceIte, Nat.reduceEqDiff, Option.some.injEq, Prod.mk.injEq, k_of, k_add, k_sub, k_mul, k_neg, lg_lt, lg_gt, lg_eq, b_0, b_J0, b_J1, b_retZ, k0, k1, k2, k3, k10, k19, k20, k30, k40, k999, ↓in_b, ↓dayM_b, ↓gsrM_b, ↓isqM_b, Int.add_sub_cancel, not_true, not_false_eq_true, jn1, Bool.false_eq_true, Bool.true_eq_false, reduceCtorEq, m_55_0 hM1, m_55_1 hM1, m_55_2 hM1, m_55_3 hM1, m_55_4 hM1, m_55_25 hM1, m_55_26 hM1, m_55_16 hM1, m_55_22 hM1, m_55_23 hM1, m_55_27 hM1, m_56 hM1, m_57 hM1, m_63 hM1, m_64 hM1, m_65 hM1, m_66 hM1, m_67 hM1, m_68 hM1, m_69 hM1, m_70 hM1, m_61 hM1, m_71 hM1, m_72 hM1, m_73 hM1, m_84 hM1, show ¬ (((nQ C : Nat) : Int) < C 55 25) by omega]
theorem prep4 (hS : SH u) (hC : OkC C) (hM : RM C D u) (hH : HeldOK C (nG C) u) (hI : InOK C (nG C) u) (hz : ∀ g q, g < 20 → q < 20 → ZAt g q u) : ∃ v, lp (fun s : Int32 × Mem => bX12_prepare_163 55 s.1 s.2) FU ((0 : Int32), u) = some v ∧ Fr (fun a _ => 75 ≤ a ∧ a ≤ 77) u v ∧ ∀ g q, g < 20 → q < nQ C → RowAt C g q v := by
  have hqq := hC.q
  refine lp_inv (f := fun s : Int32 × Mem => bX12_prepare_163 55 s.1 s.2) (E := fun v => Fr (fun a _ => 75 ≤ a ∧ a ≤ 77) u v ∧ ∀ g q, g < 20 → q < nQ C → RowAt C g q v)
    (fun m s => s.1 = J (m : Nat) ∧ Fr (fun a _ => 75 ≤ a ∧ a ≤ 77) u s.2 ∧ (∀ g q, g < m → q < nQ C → RowAt C g q s.2) ∧ ∀ g q, m ≤ g → g < 20 → q < 20 → ZAt g q s.2) 20 ⟨rfl, Fr.rfl, fun g q hk => by omega, fun g q _ hg hq => hz g q hg hq⟩ ?_ ?_ (FU_gt (by omega))
  · rintro m ⟨s, v⟩ hm ⟨e1, e2, e3, e4⟩
    simp only at e1 e2 e3 e4
    subst e1
    have sv := e2.SH hS
    have hM1 := RM_fr e2 (fun a k h => PX_arr (by omega)) hM
    have hH1 := HeldOK_fr hH e2 (fun a k h => by omega)
    have hI1 := InOK_fr hI e2 (fun a k h => by omega)
    obtain ⟨w, x1, x2, x3⟩ := prep4in (g := m) sv hC hM1 hH1 hI1 hm (fun q hq => e4 m q (Nat.le_refl _) hm hq)
    refine ⟨(J (m + 1 : Nat), w), ?_, rfl, e2.trans (x2.mono fun a k h => by unfold P7 at h; omega), fun g q hg hq => ?_, fun g q h1 h2 h3 => ?_⟩
    · show bX12_prepare_163 55 (J m) v = _
      unfold bX12_prepare_163
      rw [j20, if_pos ((j_lt _ _ (by omega) (by omega) (by omega) (by omega)).mpr (show (m : Int) < 20 by omega)), x1]
      simp only [s_some, s_nm, j1, j_add, jn1]
    · by_cases hgm : g = m
      · subst hgm; exact x3 q hq
      · have := e3 g q (by omega) hq
        unfold RowAt at this ⊢
        show mI w _ _ = _ ∧ mI w _ _ = _ ∧ mI w _ _ = _
        rw [x2.2.2 _ _ (by unfold P7; omega), x2.2.2 _ _ (by unfold P7; omega), x2.2.2 _ _ (by unfold P7; omega)]
        exact this
    · have := e4 g q (by omega) h2 h3
      unfold ZAt at this ⊢
      show mI w _ _ = _ ∧ mI w _ _ = _ ∧ mI w _ _ = _
      rw [x2.2.2 _ _ (by unfold P7; omega), x2.2.2 _ _ (by unfold P7; omega), x2.2.2 _ _ (by unfold P7; omega)]
      exact this
  · rintro ⟨s, v⟩ ⟨e1, e2, e3, e4⟩
    simp only at e1 e2 e3 e4
    subst e1
    exact ⟨v, rfl, e2, e3⟩
theorem prepM (hS : SH u) (hC : OkC C) (hM : RM C D u) : ∃ v, fX12_prepare 55 u = some v ∧ Fr (fun a _ => 74 ≤ a ∧ a ≤ 78) u v ∧ PrepOK C v := by
  have hqq := hC.q
  obtain ⟨v1, x1, y1, z1⟩ := prep1 hS
  have s1 := y1.SH hS
  have m1 := RM_fr y1 (fun a k h => PX_arr (by omega)) hM
  obtain ⟨v2, x2, y2, z2⟩ := prep2 s1
  have s2 := y2.SH s1
  have m2 := RM_fr y2 (fun a k h => PX_arr (by omega)) m1
  obtain ⟨v3, x3, y3, z3, w3⟩ := prep3 s2 hC m2 z2 (fun k hk => by rw [y2.2.2 _ _ (by omega)]; exact (z1 k hk).2.2.2)
  have s3 := y3.SH s2
  have m3 := RM_fr y3 (fun a k h => PX_arr (by omega)) m2
  obtain ⟨v4, x4, y4, z4⟩ := prep4 s3 hC m3 z3 w3 (fun g q hg hq => by
    obtain ⟨c1, c2, c3, c4⟩ := z1 (20 * g + q) (by omega)
    unfold ZAt
    rw [y3.2.2 _ _ (by omega), y3.2.2 _ _ (by omega), y3.2.2 _ _ (by omega), y2.2.2 _ _ (by omega), y2.2.2 _ _ (by omega), y2.2.2 _ _ (by omega)]
    exact ⟨c1, c2, c3⟩)
  refine ⟨v4, ?_, (((y1.mono fun a k h => by omega).trans (y2.mono fun a k h => by omega)).trans (y3.mono fun a k h => by omega)).trans (y4.mono fun a k h => by omega), HeldOK_fr z3 y4 (fun a k h => by omega), InOK_fr w3 y4 (fun a k h => by omega), fun g q hg hq => z4 g q hg hq⟩
  unfold fX12_prepare
  rw [x1, s_some, x2, s_some, x3, s_some, x4]
  rfl
theorem PrepOK_fr (h : PrepOK C u) (f : Fr P u u') (hP : ∀ a k, P a k → ¬ (74 ≤ a ∧ a ≤ 78)) : PrepOK C u' := by
  refine ⟨HeldOK_fr h.1 f fun a k hp => by have := hP a k hp; omega, InOK_fr h.2.1 f fun a k hp => by have := hP a k hp; omega, fun g q hg hq => ?_⟩
  have hh := h.2.2 g q hg hq
  rw [f.2.2 _ _ fun hp => hP _ _ hp (by omega), f.2.2 _ _ fun hp => hP _ _ hp (by omega), f.2.2 _ _ fun hp => hP _ _ hp (by omega)]
  exact hh
end PREP3
