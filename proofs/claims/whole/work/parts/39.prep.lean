/-! the reference's prepare: what is held -/
theorem and01 : J 0 &&& J 1 = J 0 := rfl
theorem and11 : J 1 &&& J 1 = J 1 := rfl
def HeldOK (C : Sp) (n : Nat) (u : Mem) : Prop := ∀ g q s : Nat, g < 20 → q < nQ C → C 63 q + s ≤ C 64 q → mI u 74 (60 * (20 * g + q) + s) = J (tenOf C (lastD C g q (C 63 q + s) n))
def InOK (C : Sp) (n : Nat) (u : Mem) : Prop := ∀ g q : Nat, g < 20 → q < nQ C → mI u 78 (20 * g + q) = J (if lastD C g q 1000 n = none then 0 else 1)
section PREP
variable {C D : Sp} {n : Nat} {u u' : Mem} {β : Type} {g q c : Nat} {d a b t : Int} {P : Nat → Nat → Prop}
theorem RM_fr (f : Fr P u u') (hP : ∀ a k, P a k → PX a k = true) (h : RM C D u) : RM C D u' := by
  refine ⟨fun a k e => ?_, fun a k e => ?_⟩
  · rw [f.2.2 a k ?_]
    · exact h.1 a k e
    · intro hp
      have := hP a k hp
      unfold PX at this
      rw [e] at this
      cases this
  · rw [f.2.2 a k ?_]
    · exact h.2 a k e
    · intro hp
      have := hP a k hp
      unfold PX at this
      rw [e] at this
      simp at this
theorem PX_arr {a k : Nat} (h : 74 ≤ a ∧ a ≤ 83) : PX a k = true := by
  unfold PX PC PD
  have h1 : (a == 55) = false := by simp; omega
  have h2 : (a == 56) = false := by simp; omega
  have h3 : (a == 57) = false := by simp; omega
  have h4 : (a == 61) = false := by simp; omega
  have h5 : (a == 84) = false := by simp; omega
  have h6 : decide (a ≤ 70) = false := by simp; omega
  have h7 : decide (a ≤ 73) = false := by simp; omega
  rw [h1, h2, h3, h4, h5, h6, h7]
  simp
theorem FrM_fr (f : Fr P u u') (hP : ∀ a k, P a k → 55 ≤ a ∧ a < 88) : FrM u u' := ⟨f.1, fun a k ha => f.2.2 a k fun hp => by have := hP a k hp; omega, f.2.1⟩
theorem prep1 (hS : SH u) : ∃ v, lp (fun s : Int32 × Mem => bX12_prepare_2 55 s.1 s.2) FU ((0 : Int32), u) = some v ∧ Fr (fun a _ => 75 ≤ a ∧ a ≤ 78) u v ∧ ∀ k, k < 400 → mI v 75 k = J 0 ∧ mI v 76 k = J 0 ∧ mI v 77 k = J 0 ∧ mI v 78 k = J 0 := by
  refine lp_inv (f := fun s : Int32 × Mem => bX12_prepare_2 55 s.1 s.2) (E := fun v => Fr (fun a _ => 75 ≤ a ∧ a ≤ 78) u v ∧ ∀ k, k < 400 → mI v 75 k = J 0 ∧ mI v 76 k = J 0 ∧ mI v 77 k = J 0 ∧ mI v 78 k = J 0)
    (fun m s => s.1 = J (m : Nat) ∧ Fr (fun a _ => 75 ≤ a ∧ a ≤ 78) u s.2 ∧ ∀ k, k < m → mI s.2 75 k = J 0 ∧ mI s.2 76 k = J 0 ∧ mI s.2 77 k = J 0 ∧ mI s.2 78 k = J 0) 400 ⟨rfl, Fr.rfl, fun k hk => by omega⟩ ?_ ?_ (FU_gt (by omega))
  · rintro m ⟨s, v⟩ hm ⟨e1, e2, e3⟩
    simp only at e1 e2 e3
    subst e1
    have sv := e2.SH hS
    refine ⟨(J (m + 1 : Nat), sI (sI (sI (sI v 78 m (J 0)) 75 m (J 0)) 76 m (J 0)) 77 m (J 0)), ?_, rfl, (((e2.sI (by omega)).sI (by omega)).sI (by omega)).sI (by omega), fun k hk => ?_⟩
    · show bX12_prepare_2 55 (J m) v = _
      unfold bX12_prepare_2
      simp (disch := first | assumption | (simp only [SH_sI, SH_sL]; assumption) | (simp only [mN_sI, mN_sL, mN_sR]; assumption) | omega) only [↓s_nm, ↓s_bnd2, ↓s_some, ↓s_suml, ↓s_sumr, ↓s_nz, ↓gi_q, ↓pi_q, ↓ck_q, ↓gi_gs, ↓gr_gs, ↓g_55_10, ↓g_55_11, ↓g_55_12, ↓g_55_13, ↓g_55_14, ↓g_55_15, ↓g_55_24, ↓g_55_28, ↓g_55_29, ↓g_55_30, ↓g_55_31, ↓g_55_32, ↓g_55_33, ↓g_55_34, ↓g_55_35, ↓g_55_36, ↓g_55_37, ↓g_55_38, ↓g_55_39, ↓g_55_40, ↓g_55_41, ↓g_55_42, ↓g_55_43, ↓g_55_44, ↓g_55_47, ↓g_55_48, ↓g_55_49, ↓g_55_50, ↓g_55_51, ↓g_55_52, ↓g_55_53, ↓g_55_54, ↓al_56, ↓al_57, ↓al_58, ↓al_59, ↓al_61, ↓al_62, ↓al_63, ↓al_64, ↓al_65, ↓al_66, ↓al_67, ↓al_68, ↓al_69, ↓al_70, ↓al_71, ↓al_72, ↓al_73, ↓al_74, ↓al_75, ↓al_76, ↓al_77, ↓al_78, ↓al_79, ↓al_80, ↓al_81, ↓al_82, ↓al_83, ↓al_84, ↓al_85, ↓al_86, ↓al_87, ↓as_56, ↓as_57, ↓as_58, ↓as_59, ↓as_61, ↓as_62, ↓as_63, ↓as_64, ↓as_65, ↓as_66, ↓as_67, ↓as_68, ↓as_69, ↓as_70, ↓as_71, ↓as_72, ↓as_73, ↓as_74, ↓as_75, ↓as_76, ↓as_77, ↓as_78, ↓as_79, ↓as_80, ↓as_81, ↓as_82, ↓as_83, ↓as_84, ↓as_85, ↓as_86, ↓as_87, ↓gi_55, ↓pi_55, ↓ck_55, ↓gi_60, ↓pi_60, ↓ck_60, j0, j1, j2, j3, j4, j5, j6, j7, j8, j9, j10, j11, j12, j13, j14, j15, j16, j17, j18, j19, j20, j21, j24, j25, j30, j31, j32, j36, j41, j48, j49, j57, j59, j60, j63, j64, j81, j97, j99, j100, j122, j255, j300, j400, j500, j999, j1000, j24000, j_add, j_sub, j_mul, j_neg, j_lt, j_le, j_eq, mI_sI, mR_sI, mN_sI, mI_sR, mR_sR, mN_sR, Int.toNat_natCast, true_and, and_true, false_and, and_false, if_true, if_false, reduceIte, Nat.reduceEqDiff, Option.some.injEq, Prod.mk.injEq, k_of, k_add, k_sub, k_mul, k_neg, lg_lt, lg_gt, lg_eq, b_0, b_J0, b_J1, b_retZ, k0, k1, k2, k3, k10, k19, k20, k30, k40, k999, ↓in_b, ↓dayM_b, ↓gsrM_b, ↓isqM_b, Int.add_sub_cancel, not_true, not_false_eq_true, jn1, Bool.false_eq_true, Bool.true_eq_false, reduceCtorEq, and01, show (m : Int) < 400 by omega]
    · simp only [mI_sI]
      by_cases h : k = m
      · simp [h]
      · simpa [h] using e3 k (by omega)
  · rintro ⟨s, v⟩ ⟨e1, e2, e3⟩
    simp only at e1 e2 e3
    subst e1
    refine ⟨v, ?_, e2, e3⟩
    show bX12_prepare_2 55 (J (400 : Nat)) v = _
    unfold bX12_prepare_2
    rw [j400, if_neg]
    rw [j_lt _ _ (by omega) (by omega) (by omega) (by omega)]
    omega
theorem prep2 (hS : SH u) : ∃ v, lp (fun s : Int32 × Mem => bX12_prepare_45 55 s.1 s.2) FU ((0 : Int32), u) = some v ∧ Fr (fun a _ => a = 74) u v ∧ ∀ k, k < 24000 → mI v 74 k = J (-1) := by
  refine lp_inv (f := fun s : Int32 × Mem => bX12_prepare_45 55 s.1 s.2) (E := fun v => Fr (fun a _ => a = 74) u v ∧ ∀ k, k < 24000 → mI v 74 k = J (-1))
    (fun m s => s.1 = J (m : Nat) ∧ Fr (fun a _ => a = 74) u s.2 ∧ ∀ k, k < m → mI s.2 74 k = J (-1)) 24000 ⟨rfl, Fr.rfl, fun k hk => by omega⟩ ?_ ?_ (FU_gt (by omega))
  · rintro m ⟨s, v⟩ hm ⟨e1, e2, e3⟩
    simp only at e1 e2 e3
    subst e1
    have sv := e2.SH hS
    refine ⟨(J (m + 1 : Nat), sI v 74 m (J (-1))), ?_, rfl, e2.sI rfl, fun k hk => ?_⟩
    · show bX12_prepare_45 55 (J m) v = _
      unfold bX12_prepare_45
      simp (disch := first | assumption | (simp only [SH_sI, SH_sL]; assumption) | (simp only [mN_sI, mN_sL, mN_sR]; assumption) | omega) only [↓s_nm, ↓s_bnd2, ↓s_some, ↓s_suml, ↓s_sumr, ↓s_nz, ↓gi_q, ↓pi_q, ↓ck_q, ↓gi_gs, ↓gr_gs, ↓g_55_10, ↓g_55_11, ↓g_55_12, ↓g_55_13, ↓g_55_14, ↓g_55_15, ↓g_55_24, ↓g_55_28, ↓g_55_29, ↓g_55_30, ↓g_55_31, ↓g_55_32, ↓g_55_33, ↓g_55_34, ↓g_55_35, ↓g_55_36, ↓g_55_37, ↓g_55_38, ↓g_55_39, ↓g_55_40, ↓g_55_41, ↓g_55_42, ↓g_55_43, ↓g_55_44, ↓g_55_47, ↓g_55_48, ↓g_55_49, ↓g_55_50, ↓g_55_51, ↓g_55_52, ↓g_55_53, ↓g_55_54, ↓al_56, ↓al_57, ↓al_58, ↓al_59, ↓al_61, ↓al_62, ↓al_63, ↓al_64, ↓al_65, ↓al_66, ↓al_67, ↓al_68, ↓al_69, ↓al_70, ↓al_71, ↓al_72, ↓al_73, ↓al_74, ↓al_75, ↓al_76, ↓al_77, ↓al_78, ↓al_79, ↓al_80, ↓al_81, ↓al_82, ↓al_83, ↓al_84, ↓al_85, ↓al_86, ↓al_87, ↓as_56, ↓as_57, ↓as_58, ↓as_59, ↓as_61, ↓as_62, ↓as_63, ↓as_64, ↓as_65, ↓as_66, ↓as_67, ↓as_68, ↓as_69, ↓as_70, ↓as_71, ↓as_72, ↓as_73, ↓as_74, ↓as_75, ↓as_76, ↓as_77, ↓as_78, ↓as_79, ↓as_80, ↓as_81, ↓as_82, ↓as_83, ↓as_84, ↓as_85, ↓as_86, ↓as_87, ↓gi_55, ↓pi_55, ↓ck_55, ↓gi_60, ↓pi_60, ↓ck_60, j0, j1, j2, j3, j4, j5, j6, j7, j8, j9, j10, j11, j12, j13, j14, j15, j16, j17, j18, j19, j20, j21, j24, j25, j30, j31, j32, j36, j41, j48, j49, j57, j59, j60, j63, j64, j81, j97, j99, j100, j122, j255, j300, j400, j500, j999, j1000, j24000, j_add, j_sub, j_mul, j_neg, j_lt, j_le, j_eq, mI_sI, mR_sI, mN_sI, mI_sR, mR_sR, mN_sR, Int.toNat_natCast, true_and, and_true, false_and, and_false, if_true, if_false, reduceIte, Nat.reduceEqDiff, Option.some.injEq, Prod.mk.injEq, k_of, k_add, k_sub, k_mul, k_neg, lg_lt, lg_gt, lg_eq, b_0, b_J0, b_J1, b_retZ, k0, k1, k2, k3, k10, k19, k20, k30, k40, k999, ↓in_b, ↓dayM_b, ↓gsrM_b, ↓isqM_b, Int.add_sub_cancel, not_true, not_false_eq_true, jn1, Bool.false_eq_true, Bool.true_eq_false, reduceCtorEq, show (m : Int) < 24000 by omega]
    · simp only [mI_sI]
      by_cases h : k = m
      · simp [h]
      · simpa [h] using e3 k (by omega)
  · rintro ⟨s, v⟩ ⟨e1, e2, e3⟩
    simp only at e1 e2 e3
    subst e1
    refine ⟨v, ?_, e2, e3⟩
    show bX12_prepare_45 55 (J (24000 : Nat)) v = _
    unfold bX12_prepare_45
    rw [j24000, if_neg]
    rw [j_lt _ _ (by omega) (by omega) (by omega) (by omega)]
    omega
theorem prep3in {k : Nat} (hS : SH u) (hC : OkC C) (hM : RM C D u) (hk : k < nG C) (hq : C 68 k = q) (hg : g < 20) : ∃ v, lp (fun s : Int32 × Mem => bX12_prepare_105 55 (J k) (J (20 * g + q : Nat)) s.1 s.2) FU (J (C 69 k), u) = some v ∧ Fr (fun a _ => a = 74) u v ∧ ∀ j : Nat, mI v 74 j = if 60 * (20 * (g : Int) + q) + (C 69 k - C 63 q) ≤ j ∧ (j : Int) < 60 * (20 * (g : Int) + q) + (C 64 q - C 63 q) + 1 then J (C 70 k) else mI u 74 j := by
  have hqq := hC.q
  have hgg := hC.g
  have ok := okg hC hk
  rw [hq, Int.toNat_natCast] at ok
  have oq := okq hC (q := q) (by omega)
  refine lp_inv (f := fun s : Int32 × Mem => bX12_prepare_105 55 (J k) (J (20 * g + q : Nat)) s.1 s.2) (E := fun v => Fr (fun a _ => a = 74) u v ∧ ∀ j : Nat, mI v 74 j = if 60 * (20 * (g : Int) + q) + (C 69 k - C 63 q) ≤ j ∧ (j : Int) < 60 * (20 * (g : Int) + q) + (C 64 q - C 63 q) + 1 then J (C 70 k) else mI u 74 j)
    (fun m s => s.1 = J (C 69 k + m) ∧ Fr (fun a _ => a = 74) u s.2 ∧ ∀ j : Nat, mI s.2 74 j = if 60 * (20 * (g : Int) + q) + (C 69 k - C 63 q) ≤ j ∧ (j : Int) < 60 * (20 * (g : Int) + q) + (C 69 k + m - C 63 q) then J (C 70 k) else mI u 74 j) (C 64 q + 1 - C 69 k).toNat ⟨by show J (C 69 k) = J (C 69 k + (0 : Nat)); congr 1; omega, Fr.rfl, fun j => by rw [if_neg (by omega)]⟩ ?_ ?_ (FU_gt (by omega))
  · rintro m ⟨s, v⟩ hm ⟨e1, e2, e3⟩
    simp only at e1 e2 e3
    subst e1
    have sv := e2.SH hS
    have hM1 := RM_fr e2 (fun a k h => PX_arr (by omega)) hM
    have et : (60 * ((20 * g + q : Nat) : Int) + (C 69 k + (m : Int)) - C 63 q).toNat = (60 * (20 * (g : Int) + q) + (C 69 k + m - C 63 q)).toNat := by omega
    refine ⟨(J (C 69 k + (m + 1 : Nat)), sI v 74 (60 * (20 * (g : Int) + q) + (C 69 k + m - C 63 q)).toNat (J (C 70 k))), ?_, rfl, e2.sI rfl, fun j => ?_⟩
    · show bX12_prepare_105 55 (J k) (J (20 * g + q : Nat)) (J (C 69 k + m)) v = _
      unfold bX12_prepare_105
      simp (disch := first | assumption | (simp only [SH_sI, SH_sL]; assumption) | (simp only [mN_sI, mN_sL, mN_sR]; assumption) | omega) only [↓s_nm, ↓s_bnd2, ↓s_some, ↓s_suml, ↓s_sumr, ↓s_nz, ↓gi_q, ↓pi_q, ↓ck_q, ↓gi_gs, ↓gr_gs, ↓g_55_10, ↓g_55_11, ↓g_55_12, ↓g_55_13, ↓g_55_14, ↓g_55_15, ↓g_55_24, ↓g_55_28, ↓g_55_29, ↓g_55_30, ↓g_55_31, ↓g_55_32, ↓g_55_33, ↓g_55_34, ↓g_55_35, ↓g_55_36, ↓g_55_37, ↓g_55_38, ↓g_55_39, ↓g_55_40, ↓g_55_41, ↓g_55_42, ↓g_55_43, ↓g_55_44, ↓g_55_47, ↓g_55_48, ↓g_55_49, ↓g_55_50, ↓g_55_51, ↓g_55_52, ↓g_55_53, ↓g_55_54, ↓al_56, ↓al_57, ↓al_58, ↓al_59, ↓al_61, ↓al_62, ↓al_63, ↓al_64, ↓al_65, ↓al_66, ↓al_67, ↓al_68, ↓al_69, ↓al_70, ↓al_71, ↓al_72, ↓al_73, ↓al_74, ↓al_75, ↓al_76, ↓al_77, ↓al_78, ↓al_79, ↓al_80, ↓al_81, ↓al_82, ↓al_83, ↓al_84, ↓al_85, ↓al_86, ↓al_87, ↓as_56, ↓as_57, ↓as_58, ↓as_59, ↓as_61, ↓as_62, ↓as_63, ↓as_64, ↓as_65, ↓as_66, ↓as_67, ↓as_68, ↓as_69, ↓as_70, ↓as_71, ↓as_72, ↓as_73, ↓as_74, ↓as_75, ↓as_76, ↓as_77, ↓as_78, ↓as_79, ↓as_80, ↓as_81, ↓as_82, ↓as_83, ↓as_84, ↓as_85, ↓as_86, ↓as_87, ↓gi_55, ↓pi_55, ↓ck_55, ↓gi_60, ↓pi_60, ↓ck_60, j0, j1, j2, j3, j4, j5, j6, j7, j8, j9, j10, j11, j12, j13, j14, j15, j16, j17, j18, j19, j20, j21, j24, j25, j30, j31, j32, j36, j41, j48, j49, j57, j59, j60, j63, j64, j81, j97, j99, j100, j122, j255, j300, j400, j500, j999, j1000, j24000, j_add, j_sub, j_mul, j_neg, j_lt, j_le, j_eq, mI_sI, mR_sI, mN_sI, mI_sR, mR_sR, mN_sR, Int.toNat_natCast, true_and, and_true, false_and, and_false, if_true, if_false, reduceIte, Nat.reduceEqDiff, Option.some.injEq, Prod.mk.injEq, k_of, k_add, k_sub, k_mul, k_neg, lg_lt, lg_gt, lg_eq, b_0, b_J0, b_J1, b_retZ, k0, k1, k2, k3, k10, k19, k20, k30, k40, k999, ↓in_b, ↓dayM_b, ↓gsrM_b, ↓isqM_b, Int.add_sub_cancel, not_true, not_false_eq_true, jn1, Bool.false_eq_true, Bool.true_eq_false, reduceCtorEq, m_55_0 hM1, m_55_1 hM1, m_55_2 hM1, m_55_3 hM1, m_55_4 hM1, m_55_25 hM1, m_55_26 hM1, m_55_16 hM1, m_55_22 hM1, m_55_23 hM1, m_55_27 hM1, m_56 hM1, m_57 hM1, m_63 hM1, m_64 hM1, m_65 hM1, m_66 hM1, m_67 hM1, m_68 hM1, m_69 hM1, m_70 hM1, m_61 hM1, m_71 hM1, m_72 hM1, m_73 hM1, m_84 hM1, hq, show ¬ (C 64 q < C 69 k + m) by omega, et]
      rw [show C 69 k + (m : Int) + 1 = C 69 k + ((m : Int) + 1) by omega]
    · simp only [mI_sI]
      by_cases h : j = (60 * (20 * (g : Int) + q) + (C 69 k + m - C 63 q)).toNat
      · rw [if_pos ⟨trivial, h⟩, if_pos (by omega)]
      · rw [if_neg (fun x => h x.2), e3 j]
        by_cases h2 : 60 * (20 * (g : Int) + q) + (C 69 k - C 63 q) ≤ j ∧ (j : Int) < 60 * (20 * (g : Int) + q) + (C 69 k + m - C 63 q)
        · rw [if_pos h2, if_pos (by omega)]
        · rw [if_neg h2, if_neg (by omega)]
  · rintro ⟨s, v⟩ ⟨e1, e2, e3⟩
    simp only at e1 e2 e3
    subst e1
    have sv := e2.SH hS
    have hM1 := RM_fr e2 (fun a k h => PX_arr (by omega)) hM
    refine ⟨v, ?_, e2, fun j => ?_⟩
    · show bX12_prepare_105 55 (J k) (J (20 * g + q : Nat)) (J (C 69 k + ((C 64 q + 1 - C 69 k).toNat : Nat))) v = _
      unfold bX12_prepare_105
      simp (disch := first | assumption | (simp only [SH_sI, SH_sL]; assumption) | (simp only [mN_sI, mN_sL, mN_sR]; assumption) | omega) only [↓s_nm, ↓s_bnd2, ↓s_some, ↓s_suml, ↓s_sumr, ↓s_nz, ↓gi_q, ↓pi_q, ↓ck_q, ↓gi_gs, ↓gr_gs, ↓g_55_10, ↓g_55_11, ↓g_55_12, ↓g_55_13, ↓g_55_14, ↓g_55_15, ↓g_55_24, ↓g_55_28, ↓g_55_29, ↓g_55_30, ↓g_55_31, ↓g_55_32, ↓g_55_33, ↓g_55_34, ↓g_55_35, ↓g_55_36, ↓g_55_37, ↓g_55_38, ↓g_55_39, ↓g_55_40, ↓g_55_41, ↓g_55_42, ↓g_55_43, ↓g_55_44, ↓g_55_47, ↓g_55_48, ↓g_55_49, ↓g_55_50, ↓g_55_51, ↓g_55_52, ↓g_55_53, ↓g_55_54, ↓al_56, ↓al_57, ↓al_58, ↓al_59, ↓al_61, ↓al_62, ↓al_63, ↓al_64, ↓al_65, ↓al_66, ↓al_67, ↓al_68, ↓al_69, ↓al_70, ↓al_71, ↓al_72, ↓al_73, ↓al_74, ↓al_75, ↓al_76, ↓al_77, ↓al_78, ↓al_79, ↓al_80, ↓al_81, ↓al_82, ↓al_83, ↓al_84, ↓al_85, ↓al_86, ↓al_87, ↓as_56, ↓as_57, ↓as_58, ↓as_59, ↓as_61, ↓as_62, ↓as_63, ↓as_64, ↓as_65, ↓as_66, ↓as_67, ↓as_68, ↓as_69, ↓as_70, ↓as_71, ↓as_72, ↓as_73, ↓as_74, ↓as_75, ↓as_76, ↓as_77, ↓as_78, ↓as_79, ↓as_80, ↓as_81, ↓as_82, ↓as_83, ↓as_84, ↓as_85, ↓as_86, ↓as_87, ↓gi_55, ↓pi_55, ↓ck_55, ↓gi_60, ↓pi_60, ↓ck_60, j0, j1, j2, j3, j4, j5, j6, j7, j8, j9, j10, j11, j12, j13, j14, j15, j16, j17, j18, j19, j20, j21, j24, j25, j30, j31, j32, j36, j41, j48, j49, j57, j59, j60, j63, j64, j81, j97, j99, j100, j122, j255, j300, j400, j500, j999, j1000, j24000, j_add, j_sub, j_mul, j_neg, j_lt, j_le, j_eq, mI_sI, mR_sI, mN_sI, mI_sR, mR_sR, mN_sR, Int.toNat_natCast, true_and, and_true, false_and, and_false, if_true, if_false, reduceIte, Nat.reduceEqDiff, Option.some.injEq, Prod.mk.injEq, k_of, k_add, k_sub, k_mul, k_neg, lg_lt, lg_gt, lg_eq, b_0, b_J0, b_J1, b_retZ, k0, k1, k2, k3, k10, k19, k20, k30, k40, k999, ↓in_b, ↓dayM_b, ↓gsrM_b, ↓isqM_b, Int.add_sub_cancel, not_true, not_false_eq_true, jn1, Bool.false_eq_true, Bool.true_eq_false, reduceCtorEq, m_55_0 hM1, m_55_1 hM1, m_55_2 hM1, m_55_3 hM1, m_55_4 hM1, m_55_25 hM1, m_55_26 hM1, m_55_16 hM1, m_55_22 hM1, m_55_23 hM1, m_55_27 hM1, m_56 hM1, m_57 hM1, m_63 hM1, m_64 hM1, m_65 hM1, m_66 hM1, m_67 hM1, m_68 hM1, m_69 hM1, m_70 hM1, m_61 hM1, m_71 hM1, m_72 hM1, m_73 hM1, m_84 hM1, hq, show C 64 q < C 69 k + ((C 64 q + 1 - C 69 k).toNat : Nat) by omega]
    · rw [e3 j]
      by_cases h2 : 60 * (20 * (g : Int) + q) + (C 69 k - C 63 q) ≤ j ∧ (j : Int) < 60 * (20 * (g : Int) + q) + (C 64 q - C 63 q) + 1
      · rw [if_pos h2, if_pos (by omega)]
      · rw [if_neg h2, if_neg (by omega)]
theorem prep3 (hS : SH u) (hC : OkC C) (hM : RM C D u) (h74 : ∀ k, k < 24000 → mI u 74 k = J (-1)) (h78 : ∀ k, k < 400 → mI u 78 k = J 0) : ∃ v, lp (fun s : Int32 × Mem => bX12_prepare_67 55 s.1 s.2) FU ((0 : Int32), u) = some v ∧ Fr (fun a _ => a = 74 ∨ a = 78) u v ∧ HeldOK C (nG C) v ∧ InOK C (nG C) v := by
  have hqq := hC.q
  have hgg := hC.g
  refine lp_inv (f := fun s : Int32 × Mem => bX12_prepare_67 55 s.1 s.2) (E := fun v => Fr (fun a _ => a = 74 ∨ a = 78) u v ∧ HeldOK C (nG C) v ∧ InOK C (nG C) v)
    (fun m s => s.1 = J (m : Nat) ∧ Fr (fun a _ => a = 74 ∨ a = 78) u s.2 ∧ HeldOK C m s.2 ∧ InOK C m s.2) (nG C) ⟨rfl, Fr.rfl, fun g q s hg hq hs => ?_, fun g q hg hq => h78 _ (by omega)⟩ ?_ ?_ (FU_gt (by omega))
  · have oq := okq hC hq
    exact h74 _ (by omega)
  · rintro m ⟨s, v⟩ hm ⟨e1, e2, e3, e4⟩
    simp only at e1 e2 e3 e4
    subst e1
    have sv := e2.SH hS
    have hM1 := RM_fr e2 (fun a k h => PX_arr (by omega)) hM
    have ok := okg hC hm
    obtain ⟨g, eg⟩ : ∃ q : Nat, C 67 m = q := ⟨(C 67 m).toNat, by omega⟩
    obtain ⟨q, eq⟩ : ∃ q : Nat, C 68 m = q := ⟨(C 68 m).toNat, by omega⟩
    rw [eg, eq, Int.toNat_natCast] at ok
    have f1 : Fr (fun a _ => a = 74 ∨ a = 78) v (sI v 78 (20 * g + q) (J 1)) := Fr.rfl.sI (Or.inr rfl)
    have hM2 := RM_fr f1 (fun a k h => PX_arr (by omega)) hM1
    have sv2 : SH (sI v 78 (20 * g + q) (J 1)) := sv
    obtain ⟨w, x1, x2, x3⟩ := prep3in (g := g) (q := q) sv2 hC hM2 hm eq (by omega)
    have ec : (20 : Int) * (g : Int) + (q : Int) = ((20 * g + q : Nat) : Int) := by omega
    refine ⟨(J (m + 1 : Nat), w), ?_, rfl, (e2.trans f1).trans (x2.mono fun a k h => Or.inl h), fun g' q' s hg' hq' hs => ?_, fun g' q' hg' hq' => ?_⟩
    · show bX12_prepare_67 55 (J m) v = _
      unfold bX12_prepare_67 fX12_pair
      simp (disch := first | assumption | (simp only [SH_sI, SH_sL]; assumption) | (simp only [mN_sI, mN_sL, mN_sR]; assumption) | omega) only [↓s_nm, ↓s_bnd2, ↓s_some, ↓s_suml, ↓s_sumr, ↓s_nz, ↓gi_q, ↓pi_q, ↓ck_q, ↓gi_gs, ↓gr_gs, ↓g_55_10, ↓g_55_11, ↓g_55_12, ↓g_55_13, ↓g_55_14, ↓g_55_15, ↓g_55_24, ↓g_55_28, ↓g_55_29, ↓g_55_30, ↓g_55_31, ↓g_55_32, ↓g_55_33, ↓g_55_34, ↓g_55_35, ↓g_55_36, ↓g_55_37, ↓g_55_38, ↓g_55_39, ↓g_55_40, ↓g_55_41, ↓g_55_42, ↓g_55_43, ↓g_55_44, ↓g_55_47, ↓g_55_48, ↓g_55_49, ↓g_55_50, ↓g_55_51, ↓g_55_52, ↓g_55_53, ↓g_55_54, ↓al_56, ↓al_57, ↓al_58, ↓al_59, ↓al_61, ↓al_62, ↓al_63, ↓al_64, ↓al_65, ↓al_66, ↓al_67, ↓al_68, ↓al_69, ↓al_70, ↓al_71, ↓al_72, ↓al_73, ↓al_74, ↓al_75, ↓al_76, ↓al_77, ↓al_78, ↓al_79, ↓al_80, ↓al_81, ↓al_82, ↓al_83, ↓al_84, ↓al_85, ↓al_86, ↓al_87, ↓as_56, ↓as_57, ↓as_58, ↓as_59, ↓as_61, ↓as_62, ↓as_63, ↓as_64, ↓as_65, ↓as_66, ↓as_67, ↓as_68, ↓as_69, ↓as_70, ↓as_71, ↓as_72, ↓as_73, ↓as_74, ↓as_75, ↓as_76, ↓as_77, ↓as_78, ↓as_79, ↓as_80, ↓as_81, ↓as_82, ↓as_83, ↓as_84, ↓as_85, ↓as_86, ↓as_87, ↓gi_55, ↓pi_55, ↓ck_55, ↓gi_60, ↓pi_60, ↓ck_60, j0, j1, j2, j3, j4, j5, j6, j7, j8, j9, j10, j11, j12, j13, j14, j15, j16, j17, j18, j19, j20, j21, j24, j25, j30, j31, j32, j36, j41, j48, j49, j57, j59, j60, j63, j64, j81, j97, j99, j100, j122, j255, j300, j400, j500, j999, j1000, j24000, j_add, j_sub, j_mul, j_neg, j_lt, j_le, j_eq, mI_sI, mR_sI, mN_sI, mI_sR, mR_sR, mN_sR, Int.toNat_natCast, true_and, and_true, false_and, and_false, if_true, if_false, reduceIte, Nat.reduceEqDiff, Option.some.injEq, Prod.mk.injEq, k_of, k_add, k_sub, k_mul, k_neg, lg_lt, lg_gt, lg_eq, b_0, b_J0, b_J1, b_retZ, k0, k1, k2, k3, k10, k19, k20, k30, k40, k999, ↓in_b, ↓dayM_b, ↓gsrM_b, ↓isqM_b, Int.add_sub_cancel, not_true, not_false_eq_true, jn1, Bool.false_eq_true, Bool.true_eq_false, reduceCtorEq, m_55_0 hM1, m_55_1 hM1, m_55_2 hM1, m_55_3 hM1, m_55_4 hM1, m_55_25 hM1, m_55_26 hM1, m_55_16 hM1, m_55_22 hM1, m_55_23 hM1, m_55_27 hM1, m_56 hM1, m_57 hM1, m_63 hM1, m_64 hM1, m_65 hM1, m_66 hM1, m_67 hM1, m_68 hM1, m_69 hM1, m_70 hM1, m_61 hM1, m_71 hM1, m_72 hM1, m_73 hM1, m_84 hM1, eg, eq, show (m : Int) < C 55 26 by omega, and11, ec]
      rw [x1]
      rfl
    · show mI w 74 _ = _
      have oq := okq hC hq'
      rw [x3, lastD, eg, eq]
      by_cases hx : g' = g ∧ q' = q
      · obtain ⟨rfl, rfl⟩ := hx
        by_cases hd : C 69 m ≤ C 63 q' + s
        · rw [if_pos (by omega), if_pos ⟨rfl, rfl, hd⟩]; rfl
        · rw [if_neg (by omega), if_neg (by omega), mI_sI, if_neg (by omega)]
          exact e3 g' q' s hg' hq' hs
      · have oq2 := okq hC (q := q) (by omega)
        rw [if_neg (by omega), if_neg (by omega), mI_sI, if_neg (by omega)]
        exact e3 g' q' s hg' hq' hs
    · show mI w 78 _ = _
      rw [x2.2.2 _ _ (by omega), mI_sI, lastD, eg, eq]
      by_cases hx : g' = g ∧ q' = q
      · obtain ⟨rfl, rfl⟩ := hx
        rw [if_pos ⟨rfl, rfl⟩, if_pos (show (g' : Int) = g' ∧ (q' : Int) = q' ∧ C 69 m ≤ 1000 from ⟨rfl, rfl, by omega⟩)]; rfl
      · rw [if_neg (by omega), if_neg (show ¬ ((g : Int) = g' ∧ (q : Int) = q' ∧ C 69 m ≤ 1000) by omega)]
        exact e4 g' q' hg' hq'
  · rintro ⟨s, v⟩ ⟨e1, e2, e3, e4⟩
    simp only at e1 e2 e3 e4
    subst e1
    have sv := e2.SH hS
    have hM1 := RM_fr e2 (fun a k h => PX_arr (by omega)) hM
    refine ⟨v, ?_, e2, e3, e4⟩
    show bX12_prepare_67 55 (J (nG C : Nat)) v = _
    unfold bX12_prepare_67
    simp (disch := first | assumption | (simp only [SH_sI, SH_sL]; assumption) | (simp only [mN_sI, mN_sL, mN_sR]; assumption) | omega) only [↓s_nm, ↓s_bnd2, ↓s_some, ↓s_suml, ↓s_sumr, ↓s_nz, ↓gi_q, ↓pi_q, ↓ck_q, ↓gi_gs, ↓gr_gs, ↓g_55_10, ↓g_55_11, ↓g_55_12, ↓g_55_13, ↓g_55_14, ↓g_55_15, ↓g_55_24, ↓g_55_28, ↓g_55_29, ↓g_55_30, ↓g_55_31, ↓g_55_32, ↓g_55_33, ↓g_55_34, ↓g_55_35, ↓g_55_36, ↓g_55_37, ↓g_55_38, ↓g_55_39, ↓g_55_40, ↓g_55_41, ↓g_55_42, ↓g_55_43, ↓g_55_44, ↓g_55_47, ↓g_55_48, ↓g_55_49, ↓g_55_50, ↓g_55_51, ↓g_55_52, ↓g_55_53, ↓g_55_54, ↓al_56, ↓al_57, ↓al_58, ↓al_59, ↓al_61, ↓al_62, ↓al_63, ↓al_64, ↓al_65, ↓al_66, ↓al_67, ↓al_68, ↓al_69, ↓al_70, ↓al_71, ↓al_72, ↓al_73, ↓al_74, ↓al_75, ↓al_76, ↓al_77, ↓al_78, ↓al_79, ↓al_80, ↓al_81, ↓al_82, ↓al_83, ↓al_84, ↓al_85, ↓al_86, ↓al_87, ↓as_56, ↓as_57, ↓as_58, ↓as_59, ↓as_61, ↓as_62, ↓as_63, ↓as_64, ↓as_65, ↓as_66, ↓as_67, ↓as_68, ↓as_69, ↓as_70, ↓as_71, ↓as_72, ↓as_73, ↓as_74, ↓as_75, ↓as_76, ↓as_77, ↓as_78, ↓as_79, ↓as_80, ↓as_81, ↓as_82, ↓as_83, ↓as_84, ↓as_85, ↓as_86, ↓as_87, ↓gi_55, ↓pi_55, ↓ck_55, ↓gi_60, ↓pi_60, ↓ck_60, j0, j1, j2, j3, j4, j5, j6, j7, j8, j9, j10, j11, j12, j13, j14, j15, j16, j17, j18, j19, j20, j21, j24, j25, j30, j31, j32, j36, j41, j48, j49, j57, j59, j60, j63, j64, j81, j97, j99, j100, j122, j255, j300, j400, j500, j999, j1000, j24000, j_add, j_sub, j_mul, j_neg, j_lt, j_le, j_eq, mI_sI, mR_sI, mN_sI, mI_sR, mR_sR, mN_sR, Int.toNat_natCast, true_and, and_true, false_and, and_false, if_true, if_false, reduceIte, Nat.reduceEqDiff, Option.some.injEq, Prod.mk.injEq, k_of, k_add, k_sub, k_mul, k_neg, lg_lt, lg_gt, lg_eq, b_0, b_J0, b_J1, b_retZ, k0, k1, k2, k3, k10, k19, k20, k30, k40, k999, ↓in_b, ↓dayM_b, ↓gsrM_b, ↓isqM_b, Int.add_sub_cancel, not_true, not_false_eq_true, jn1, Bool.false_eq_true, Bool.true_eq_false, reduceCtorEq, m_55_0 hM1, m_55_1 hM1, m_55_2 hM1, m_55_3 hM1, m_55_4 hM1, m_55_25 hM1, m_55_26 hM1, m_55_16 hM1, m_55_22 hM1, m_55_23 hM1, m_55_27 hM1, m_56 hM1, m_57 hM1, m_63 hM1, m_64 hM1, m_65 hM1, m_66 hM1, m_67 hM1, m_68 hM1, m_69 hM1, m_70 hM1, m_61 hM1, m_71 hM1, m_72 hM1, m_73 hM1, m_84 hM1, show ¬ (((nG C : Nat) : Int) < C 55 26) by omega]
end PREP
