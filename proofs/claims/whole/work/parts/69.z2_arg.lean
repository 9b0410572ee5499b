/-! rules: the reference takes an argument -/
def wr (u : Mem) (f s : Int) : Mem := sI (sI u 55 22 (J f)) 55 23 (J s)
def P5m (a k : Nat) : Prop := a = 55 ∧ (5 ≤ k ∧ k ≤ 9 ∨ 18 ≤ k ∧ k ≤ 23) ∨ a = 58 ∨ a = 59 ∨ a = 62
def DrM (S : Sp) (u : Mem) : Prop := (∀ k, k < 5 → mI u 55 (5 + k) = J (S 55 k)) ∧ (∀ k, k < 11 → mI u 58 k = J (S 56 k) ∧ mI u 59 k = J (S 57 k)) ∧ (∀ k, k < 6 → mI u 62 k = J (S 62 k)) ∧ mI u 55 22 = J (S 3 1) ∧ mI u 55 23 = J (S 3 2)
def RelM (L : Nat) (y : Nat → Int) (p : Nat) (S : Sp) (u : Mem) : Prop := TkM L y p u ∧ DrM S u
/-- a fault, at the reference and at the machine -/
def Flt (L : Nat) (y : Nat → Int) (p : Nat) (S : Sp) (u v : Mem) : Prop := Fr P5m u v ∧ ∃ q T, St L y p S q T ∧ T 3 11 ≠ 0 ∧ T 3 1 ≠ 0 ∧ mI v 55 22 = J (T 3 1) ∧ mI v 55 23 = J (T 3 2)
section ZARG
variable {L p q : Nat} {y : Nat → Int} {u v w : Mem} {S T : Sp} {f s lo hi : Int}
theorem P5_m {a k : Nat} (h : P5 a k) : P5m a k := by unfold P5 at h; unfold P5m; omega
theorem scM2 (h : TkM L y p u) : ∃ v, fX12_scan 55 u = some v ∧ Fr P5 u v ∧ TkM L y (nxt L y p) v := by
  obtain ⟨hp, hT, h18, h19, h20, h21⟩ := h
  have hn := nxt_le (y := y) hp
  obtain ⟨v, e, f, a1, a2, a3, a4⟩ := scM hT hn.2.1 h19
  exact ⟨v, e, f, hn.2.1, TpM_fr hT f fun a k h => P5_t h, a1, a2, a3, a4⟩
theorem wrM (h : TkM L y p u) : fX12_wrong 55 (J f) u = some (some 60, wr u f (stk L y p)) := by
  obtain ⟨hp, hT, h18, h19, h20, h21⟩ := h
  have hS := hT.1
  unfold fX12_wrong wr
  simp (disch := first | (simp only [SH_sIi, SH_sLi]; assumption) | assumption | (simp only [nN_sI, nN_sL, nN_sR]; assumption) | omega) only [↓s_nm, ↓s_bnd2, ↓s_some, ↓s_suml, ↓s_sumr, ↓s_nz, ↓gi_q, ↓pi_q, ↓ck_q, ↓gi_gs, ↓gr_gs, ↓g_55_10, ↓g_55_11, ↓g_55_12, ↓g_55_13, ↓g_55_14, ↓g_55_15, ↓g_55_24, ↓g_55_28, ↓g_55_29, ↓g_55_30, ↓g_55_31, ↓g_55_32, ↓g_55_33, ↓g_55_34, ↓g_55_35, ↓g_55_36, ↓g_55_37, ↓g_55_38, ↓g_55_39, ↓g_55_40, ↓g_55_41, ↓g_55_42, ↓g_55_43, ↓g_55_44, ↓g_55_47, ↓g_55_48, ↓g_55_49, ↓g_55_50, ↓g_55_51, ↓g_55_52, ↓g_55_53, ↓g_55_54, ↓al_56, ↓al_57, ↓al_58, ↓al_59, ↓al_61, ↓al_62, ↓al_63, ↓al_64, ↓al_65, ↓al_66, ↓al_67, ↓al_68, ↓al_69, ↓al_70, ↓al_71, ↓al_72, ↓al_73, ↓al_74, ↓al_75, ↓al_76, ↓al_77, ↓al_78, ↓al_79, ↓al_80, ↓al_81, ↓al_82, ↓al_83, ↓al_84, ↓al_85, ↓al_86, ↓al_87, ↓as_56, ↓as_57, ↓as_58, ↓as_59, ↓as_61, ↓as_62, ↓as_63, ↓as_64, ↓as_65, ↓as_66, ↓as_67, ↓as_68, ↓as_69, ↓as_70, ↓as_71, ↓as_72, ↓as_73, ↓as_74, ↓as_75, ↓as_76, ↓as_77, ↓as_78, ↓as_79, ↓as_80, ↓as_81, ↓as_82, ↓as_83, ↓as_84, ↓as_85, ↓as_86, ↓as_87, ↓gi_55, ↓pi_55, ↓ck_55, ↓gi_60, ↓pi_60, ↓ck_60, j0, j1, j2, j3, j4, j5, j6, j7, j8, j9, j10, j11, j12, j13, j14, j15, j16, j17, j18, j19, j20, j21, j24, j25, j30, j31, j32, j36, j41, j48, j49, j57, j59, j60, j63, j64, j81, j97, j99, j100, j122, j255, j300, j400, j500, j999, j1000, j24000, j_add, j_sub, j_mul, j_neg, j_lt, j_le, j_eq, nI_sI, nR_sI, nN_sI, nI_sR, nR_sR, nN_sR, Int.toNat_natCast, true_and, and_true, false_and, and_false, if_true, if_false, reduceIte, Nat.reduceEqDiff, Option.some.injEq, Prod.mk.injEq, k_of, k_add, k_sub, k_mul, k_neg, lg_ltJ, lg_gtJ, lg_eqJ, b_0, b_J0, b_J1, b_retZ, k0, k1, k2, k3, k10, k19, k20, k30, k40, k999, ↓in_b, ↓dayM_b, ↓gsrM_b, ↓isqM_b, Int.add_sub_cancel, not_true, not_false_eq_true, jn1, Bool.false_eq_true, Bool.true_eq_false, reduceCtorEq, h18]
theorem wr_fr : Fr P5m u (wr u f s) := by
  unfold wr
  exact (Fr.rfl.sI (by unfold P5m; omega)).sI (by unfold P5m; omega)
theorem hcd_n {n : Int} (hn : 1 ≤ n) : hcd L y p = n ↔ tkn L y p = n + 1 := by
  have := tkn_rng L y p
  unfold hcd
  split <;> omega
theorem hcd_0 : hcd L y p = 0 ↔ tkn L y p = 0 ∨ tkn L y p = 1 := by
  unfold hcd
  split <;> omega
theorem hcd_r (L : Nat) (y : Nat → Int) (p : Nat) : 0 ≤ hcd L y p ∧ hcd L y p ≤ 4 := by
  have := tkn_rng L y p
  unfold hcd
  split
  · omega
  · omega
theorem nuM (h : TkM L y p u) (h1 : 0 ≤ lo) (h2 : lo ≤ 9) (h3 : 0 ≤ hi) (h4 : hi ≤ 5000) : ((tkn L y p = 3 ∧ lo ≤ vl L y p ∧ vl L y p ≤ hi) ∧ ∃ v, fX12_number 55 (J lo) (J hi) u = some (.inl (J (vl L y p)), v) ∧ Fr P5 u v ∧ TkM L y (nxt L y p) v) ∨ (¬ (tkn L y p = 3 ∧ lo ≤ vl L y p ∧ vl L y p ≤ hi) ∧ fX12_number 55 (J lo) (J hi) u = some (.inr 60, wr u (if tkn L y p = 3 then 2 else 1) (stk L y p))) := by
  have h0 := h
  obtain ⟨hp, hT, h18, h19, h20, h21⟩ := h
  have hS := hT.1
  have hr := hcd_r L y p
  by_cases c : tkn L y p = 3
  · have vr := vl_rng hp c
    have hc : hcd L y p = 2 := (hcd_n (by omega)).mpr (by omega)
    have hv : mI u 55 21 = J (vl L y p) := h21 c
    by_cases d : lo ≤ vl L y p ∧ vl L y p ≤ hi
    · obtain ⟨v, e, f1, t1⟩ := scM2 h0
      refine Or.inl ⟨⟨c, d⟩, v, ?_, f1, t1⟩
      unfold fX12_number
      simp (disch := first | (simp only [SH_sIi, SH_sLi]; assumption) | assumption | (simp only [nN_sI, nN_sL, nN_sR]; assumption) | omega) only [↓s_nm, ↓s_bnd2, ↓s_some, ↓s_suml, ↓s_sumr, ↓s_nz, ↓gi_q, ↓pi_q, ↓ck_q, ↓gi_gs, ↓gr_gs, ↓g_55_10, ↓g_55_11, ↓g_55_12, ↓g_55_13, ↓g_55_14, ↓g_55_15, ↓g_55_24, ↓g_55_28, ↓g_55_29, ↓g_55_30, ↓g_55_31, ↓g_55_32, ↓g_55_33, ↓g_55_34, ↓g_55_35, ↓g_55_36, ↓g_55_37, ↓g_55_38, ↓g_55_39, ↓g_55_40, ↓g_55_41, ↓g_55_42, ↓g_55_43, ↓g_55_44, ↓g_55_47, ↓g_55_48, ↓g_55_49, ↓g_55_50, ↓g_55_51, ↓g_55_52, ↓g_55_53, ↓g_55_54, ↓al_56, ↓al_57, ↓al_58, ↓al_59, ↓al_61, ↓al_62, ↓al_63, ↓al_64, ↓al_65, ↓al_66, ↓al_67, ↓al_68, ↓al_69, ↓al_70, ↓al_71, ↓al_72, ↓al_73, ↓al_74, ↓al_75, ↓al_76, ↓al_77, ↓al_78, ↓al_79, ↓al_80, ↓al_81, ↓al_82, ↓al_83, ↓al_84, ↓al_85, ↓al_86, ↓al_87, ↓as_56, ↓as_57, ↓as_58, ↓as_59, ↓as_61, ↓as_62, ↓as_63, ↓as_64, ↓as_65, ↓as_66, ↓as_67, ↓as_68, ↓as_69, ↓as_70, ↓as_71, ↓as_72, ↓as_73, ↓as_74, ↓as_75, ↓as_76, ↓as_77, ↓as_78, ↓as_79, ↓as_80, ↓as_81, ↓as_82, ↓as_83, ↓as_84, ↓as_85, ↓as_86, ↓as_87, ↓gi_55, ↓pi_55, ↓ck_55, ↓gi_60, ↓pi_60, ↓ck_60, j0, j1, j2, j3, j4, j5, j6, j7, j8, j9, j10, j11, j12, j13, j14, j15, j16, j17, j18, j19, j20, j21, j24, j25, j30, j31, j32, j36, j41, j48, j49, j57, j59, j60, j63, j64, j81, j97, j99, j100, j122, j255, j300, j400, j500, j999, j1000, j24000, j_add, j_sub, j_mul, j_neg, j_lt, j_le, j_eq, nI_sI, nR_sI, nN_sI, nI_sR, nR_sR, nN_sR, Int.toNat_natCast, true_and, and_true, false_and, and_false, if_true, if_false, reduceIte, Nat.reduceEqDiff, Option.some.injEq, Prod.mk.injEq, k_of, k_add, k_sub, k_mul, k_neg, lg_ltJ, lg_gtJ, lg_eqJ, b_0, b_J0, b_J1, b_retZ, k0, k1, k2, k3, k10, k19, k20, k30, k40, k999, ↓in_b, ↓dayM_b, ↓gsrM_b, ↓isqM_b, Int.add_sub_cancel, not_true, not_false_eq_true, jn1, Bool.false_eq_true, Bool.true_eq_false, reduceCtorEq, h20, hc, hv, d]
      rw [e, s_some]
    · refine Or.inr ⟨fun x => d x.2, ?_⟩
      rw [if_pos c]
      unfold fX12_number
      simp (disch := first | (simp only [SH_sIi, SH_sLi]; assumption) | assumption | (simp only [nN_sI, nN_sL, nN_sR]; assumption) | omega) only [↓s_nm, ↓s_bnd2, ↓s_some, ↓s_suml, ↓s_sumr, ↓s_nz, ↓gi_q, ↓pi_q, ↓ck_q, ↓gi_gs, ↓gr_gs, ↓g_55_10, ↓g_55_11, ↓g_55_12, ↓g_55_13, ↓g_55_14, ↓g_55_15, ↓g_55_24, ↓g_55_28, ↓g_55_29, ↓g_55_30, ↓g_55_31, ↓g_55_32, ↓g_55_33, ↓g_55_34, ↓g_55_35, ↓g_55_36, ↓g_55_37, ↓g_55_38, ↓g_55_39, ↓g_55_40, ↓g_55_41, ↓g_55_42, ↓g_55_43, ↓g_55_44, ↓g_55_47, ↓g_55_48, ↓g_55_49, ↓g_55_50, ↓g_55_51, ↓g_55_52, ↓g_55_53, ↓g_55_54, ↓al_56, ↓al_57, ↓al_58, ↓al_59, ↓al_61, ↓al_62, ↓al_63, ↓al_64, ↓al_65, ↓al_66, ↓al_67, ↓al_68, ↓al_69, ↓al_70, ↓al_71, ↓al_72, ↓al_73, ↓al_74, ↓al_75, ↓al_76, ↓al_77, ↓al_78, ↓al_79, ↓al_80, ↓al_81, ↓al_82, ↓al_83, ↓al_84, ↓al_85, ↓al_86, ↓al_87, ↓as_56, ↓as_57, ↓as_58, ↓as_59, ↓as_61, ↓as_62, ↓as_63, ↓as_64, ↓as_65, ↓as_66, ↓as_67, ↓as_68, ↓as_69, ↓as_70, ↓as_71, ↓as_72, ↓as_73, ↓as_74, ↓as_75, ↓as_76, ↓as_77, ↓as_78, ↓as_79, ↓as_80, ↓as_81, ↓as_82, ↓as_83, ↓as_84, ↓as_85, ↓as_86, ↓as_87, ↓gi_55, ↓pi_55, ↓ck_55, ↓gi_60, ↓pi_60, ↓ck_60, j0, j1, j2, j3, j4, j5, j6, j7, j8, j9, j10, j11, j12, j13, j14, j15, j16, j17, j18, j19, j20, j21, j24, j25, j30, j31, j32, j36, j41, j48, j49, j57, j59, j60, j63, j64, j81, j97, j99, j100, j122, j255, j300, j400, j500, j999, j1000, j24000, j_add, j_sub, j_mul, j_neg, j_lt, j_le, j_eq, nI_sI, nR_sI, nN_sI, nI_sR, nR_sR, nN_sR, Int.toNat_natCast, true_and, and_true, false_and, and_false, if_true, if_false, reduceIte, Nat.reduceEqDiff, Option.some.injEq, Prod.mk.injEq, k_of, k_add, k_sub, k_mul, k_neg, lg_ltJ, lg_gtJ, lg_eqJ, b_0, b_J0, b_J1, b_retZ, k0, k1, k2, k3, k10, k19, k20, k30, k40, k999, ↓in_b, ↓dayM_b, ↓gsrM_b, ↓isqM_b, Int.add_sub_cancel, not_true, not_false_eq_true, jn1, Bool.false_eq_true, Bool.true_eq_false, reduceCtorEq, h20, hc, hv, d]
      rw [wrM h0]; rfl
  · have hc : ¬ (hcd L y p = 2) := fun x => c (by have := (hcd_n (L := L) (y := y) (p := p) (n := 2) (by omega)).mp x; omega)
    refine Or.inr ⟨fun x => c x.1, ?_⟩
    rw [if_neg c]
    unfold fX12_number
    simp (disch := first | (simp only [SH_sIi, SH_sLi]; assumption) | assumption | (simp only [nN_sI, nN_sL, nN_sR]; assumption) | omega) only [↓s_nm, ↓s_bnd2, ↓s_some, ↓s_suml, ↓s_sumr, ↓s_nz, ↓gi_q, ↓pi_q, ↓ck_q, ↓gi_gs, ↓gr_gs, ↓g_55_10, ↓g_55_11, ↓g_55_12, ↓g_55_13, ↓g_55_14, ↓g_55_15, ↓g_55_24, ↓g_55_28, ↓g_55_29, ↓g_55_30, ↓g_55_31, ↓g_55_32, ↓g_55_33, ↓g_55_34, ↓g_55_35, ↓g_55_36, ↓g_55_37, ↓g_55_38, ↓g_55_39, ↓g_55_40, ↓g_55_41, ↓g_55_42, ↓g_55_43, ↓g_55_44, ↓g_55_47, ↓g_55_48, ↓g_55_49, ↓g_55_50, ↓g_55_51, ↓g_55_52, ↓g_55_53, ↓g_55_54, ↓al_56, ↓al_57, ↓al_58, ↓al_59, ↓al_61, ↓al_62, ↓al_63, ↓al_64, ↓al_65, ↓al_66, ↓al_67, ↓al_68, ↓al_69, ↓al_70, ↓al_71, ↓al_72, ↓al_73, ↓al_74, ↓al_75, ↓al_76, ↓al_77, ↓al_78, ↓al_79, ↓al_80, ↓al_81, ↓al_82, ↓al_83, ↓al_84, ↓al_85, ↓al_86, ↓al_87, ↓as_56, ↓as_57, ↓as_58, ↓as_59, ↓as_61, ↓as_62, ↓as_63, ↓as_64, ↓as_65, ↓as_66, ↓as_67, ↓as_68, ↓as_69, ↓as_70, ↓as_71, ↓as_72, ↓as_73, ↓as_74, ↓as_75, ↓as_76, ↓as_77, ↓as_78, ↓as_79, ↓as_80, ↓as_81, ↓as_82, ↓as_83, ↓as_84, ↓as_85, ↓as_86, ↓as_87, ↓gi_55, ↓pi_55, ↓ck_55, ↓gi_60, ↓pi_60, ↓ck_60, j0, j1, j2, j3, j4, j5, j6, j7, j8, j9, j10, j11, j12, j13, j14, j15, j16, j17, j18, j19, j20, j21, j24, j25, j30, j31, j32, j36, j41, j48, j49, j57, j59, j60, j63, j64, j81, j97, j99, j100, j122, j255, j300, j400, j500, j999, j1000, j24000, j_add, j_sub, j_mul, j_neg, j_lt, j_le, j_eq, nI_sI, nR_sI, nN_sI, nI_sR, nR_sR, nN_sR, Int.toNat_natCast, true_and, and_true, false_and, and_false, if_true, if_false, reduceIte, Nat.reduceEqDiff, Option.some.injEq, Prod.mk.injEq, k_of, k_add, k_sub, k_mul, k_neg, lg_ltJ, lg_gtJ, lg_eqJ, b_0, b_J0, b_J1, b_retZ, k0, k1, k2, k3, k10, k19, k20, k30, k40, k999, ↓in_b, ↓dayM_b, ↓gsrM_b, ↓isqM_b, Int.add_sub_cancel, not_true, not_false_eq_true, jn1, Bool.false_eq_true, Bool.true_eq_false, reduceCtorEq, h20, hc]
    rw [wrM h0]; rfl
theorem eiM (h : TkM L y p u) {a c : Nat} (ha : a < 10) (hc : c < 10) : ((isw L y p a ∨ isw L y p c) ∧ ∃ v, fX12_either 55 (some (1000000 + a)) (some (1000000 + c)) u = some (.inl (J (if isw L y p a then 0 else 1)), v) ∧ Fr P5 u v ∧ TkM L y (nxt L y p) v) ∨ (¬ (isw L y p a ∨ isw L y p c) ∧ fX12_either 55 (some (1000000 + a)) (some (1000000 + c)) u = some (.inr 60, wr u 1 (stk L y p))) := by
  have hS := h.2.1.1
  obtain ⟨v, e, f1, t1⟩ := scM2 h
  by_cases d : isw L y p a
  · refine Or.inl ⟨Or.inl d, v, ?_, f1, t1⟩
    rw [if_pos d]
    unfold fX12_either jX12_either_22 jX12_either_35
    simp (disch := first | (simp only [SH_sIi, SH_sLi]; assumption) | assumption | (simp only [nN_sI, nN_sL, nN_sR]; assumption) | omega) only [↓s_nm, ↓s_bnd2, ↓s_some, ↓s_suml, ↓s_sumr, ↓s_nz, ↓gi_q, ↓pi_q, ↓ck_q, ↓gi_gs, ↓gr_gs, ↓g_55_10, ↓g_55_11, ↓g_55_12, ↓g_55_13, ↓g_55_14, ↓g_55_15, ↓g_55_24, ↓g_55_28, ↓g_55_29, ↓g_55_30, ↓g_55_31, ↓g_55_32, ↓g_55_33, ↓g_55_34, ↓g_55_35, ↓g_55_36, ↓g_55_37, ↓g_55_38, ↓g_55_39, ↓g_55_40, ↓g_55_41, ↓g_55_42, ↓g_55_43, ↓g_55_44, ↓g_55_47, ↓g_55_48, ↓g_55_49, ↓g_55_50, ↓g_55_51, ↓g_55_52, ↓g_55_53, ↓g_55_54, ↓al_56, ↓al_57, ↓al_58, ↓al_59, ↓al_61, ↓al_62, ↓al_63, ↓al_64, ↓al_65, ↓al_66, ↓al_67, ↓al_68, ↓al_69, ↓al_70, ↓al_71, ↓al_72, ↓al_73, ↓al_74, ↓al_75, ↓al_76, ↓al_77, ↓al_78, ↓al_79, ↓al_80, ↓al_81, ↓al_82, ↓al_83, ↓al_84, ↓al_85, ↓al_86, ↓al_87, ↓as_56, ↓as_57, ↓as_58, ↓as_59, ↓as_61, ↓as_62, ↓as_63, ↓as_64, ↓as_65, ↓as_66, ↓as_67, ↓as_68, ↓as_69, ↓as_70, ↓as_71, ↓as_72, ↓as_73, ↓as_74, ↓as_75, ↓as_76, ↓as_77, ↓as_78, ↓as_79, ↓as_80, ↓as_81, ↓as_82, ↓as_83, ↓as_84, ↓as_85, ↓as_86, ↓as_87, ↓gi_55, ↓pi_55, ↓ck_55, ↓gi_60, ↓pi_60, ↓ck_60, j0, j1, j2, j3, j4, j5, j6, j7, j8, j9, j10, j11, j12, j13, j14, j15, j16, j17, j18, j19, j20, j21, j24, j25, j30, j31, j32, j36, j41, j48, j49, j57, j59, j60, j63, j64, j81, j97, j99, j100, j122, j255, j300, j400, j500, j999, j1000, j24000, j_add, j_sub, j_mul, j_neg, j_lt, j_le, j_eq, nI_sI, nR_sI, nN_sI, nI_sR, nR_sR, nN_sR, Int.toNat_natCast, true_and, and_true, false_and, and_false, if_true, if_false, reduceIte, Nat.reduceEqDiff, Option.some.injEq, Prod.mk.injEq, k_of, k_add, k_sub, k_mul, k_neg, lg_ltJ, lg_gtJ, lg_eqJ, b_0, b_J0, b_J1, b_retZ, k0, k1, k2, k3, k10, k19, k20, k30, k40, k999, ↓in_b, ↓dayM_b, ↓gsrM_b, ↓isqM_b, Int.add_sub_cancel, not_true, not_false_eq_true, jn1, Bool.false_eq_true, Bool.true_eq_false, reduceCtorEq, ↓iwM h ha, ↓iwM h hc]
    rw [if_neg (fun x => x d), if_neg (fun x => x d), e, s_some]
  · by_cases d2 : isw L y p c
    · refine Or.inl ⟨Or.inr d2, v, ?_, f1, t1⟩
      rw [if_neg d]
      unfold fX12_either jX12_either_22 jX12_either_35
      simp (disch := first | (simp only [SH_sIi, SH_sLi]; assumption) | assumption | (simp only [nN_sI, nN_sL, nN_sR]; assumption) | omega) only [↓s_nm, ↓s_bnd2, ↓s_some, ↓s_suml, ↓s_sumr, ↓s_nz, ↓gi_q, ↓pi_q, ↓ck_q, ↓gi_gs, ↓gr_gs, ↓g_55_10, ↓g_55_11, ↓g_55_12, ↓g_55_13, ↓g_55_14, ↓g_55_15, ↓g_55_24, ↓g_55_28, ↓g_55_29, ↓g_55_30, ↓g_55_31, ↓g_55_32, ↓g_55_33, ↓g_55_34, ↓g_55_35, ↓g_55_36, ↓g_55_37, ↓g_55_38, ↓g_55_39, ↓g_55_40, ↓g_55_41, ↓g_55_42, ↓g_55_43, ↓g_55_44, ↓g_55_47, ↓g_55_48, ↓g_55_49, ↓g_55_50, ↓g_55_51, ↓g_55_52, ↓g_55_53, ↓g_55_54, ↓al_56, ↓al_57, ↓al_58, ↓al_59, ↓al_61, ↓al_62, ↓al_63, ↓al_64, ↓al_65, ↓al_66, ↓al_67, ↓al_68, ↓al_69, ↓al_70, ↓al_71, ↓al_72, ↓al_73, ↓al_74, ↓al_75, ↓al_76, ↓al_77, ↓al_78, ↓al_79, ↓al_80, ↓al_81, ↓al_82, ↓al_83, ↓al_84, ↓al_85, ↓al_86, ↓al_87, ↓as_56, ↓as_57, ↓as_58, ↓as_59, ↓as_61, ↓as_62, ↓as_63, ↓as_64, ↓as_65, ↓as_66, ↓as_67, ↓as_68, ↓as_69, ↓as_70, ↓as_71, ↓as_72, ↓as_73, ↓as_74, ↓as_75, ↓as_76, ↓as_77, ↓as_78, ↓as_79, ↓as_80, ↓as_81, ↓as_82, ↓as_83, ↓as_84, ↓as_85, ↓as_86, ↓as_87, ↓gi_55, ↓pi_55, ↓ck_55, ↓gi_60, ↓pi_60, ↓ck_60, j0, j1, j2, j3, j4, j5, j6, j7, j8, j9, j10, j11, j12, j13, j14, j15, j16, j17, j18, j19, j20, j21, j24, j25, j30, j31, j32, j36, j41, j48, j49, j57, j59, j60, j63, j64, j81, j97, j99, j100, j122, j255, j300, j400, j500, j999, j1000, j24000, j_add, j_sub, j_mul, j_neg, j_lt, j_le, j_eq, nI_sI, nR_sI, nN_sI, nI_sR, nR_sR, nN_sR, Int.toNat_natCast, true_and, and_true, false_and, and_false, if_true, if_false, reduceIte, Nat.reduceEqDiff, Option.some.injEq, Prod.mk.injEq, k_of, k_add, k_sub, k_mul, k_neg, lg_ltJ, lg_gtJ, lg_eqJ, b_0, b_J0, b_J1, b_retZ, k0, k1, k2, k3, k10, k19, k20, k30, k40, k999, ↓in_b, ↓dayM_b, ↓gsrM_b, ↓isqM_b, Int.add_sub_cancel, not_true, not_false_eq_true, jn1, Bool.false_eq_true, Bool.true_eq_false, reduceCtorEq, ↓iwM h ha, ↓iwM h hc]
      rw [if_pos d, if_neg (fun x => x d2), if_pos d, e, s_some]
    · refine Or.inr ⟨fun x => x.elim d d2, ?_⟩
      unfold fX12_either
      simp (disch := first | (simp only [SH_sIi, SH_sLi]; assumption) | assumption | (simp only [nN_sI, nN_sL, nN_sR]; assumption) | omega) only [↓s_nm, ↓s_bnd2, ↓s_some, ↓s_suml, ↓s_sumr, ↓s_nz, ↓gi_q, ↓pi_q, ↓ck_q, ↓gi_gs, ↓gr_gs, ↓g_55_10, ↓g_55_11, ↓g_55_12, ↓g_55_13, ↓g_55_14, ↓g_55_15, ↓g_55_24, ↓g_55_28, ↓g_55_29, ↓g_55_30, ↓g_55_31, ↓g_55_32, ↓g_55_33, ↓g_55_34, ↓g_55_35, ↓g_55_36, ↓g_55_37, ↓g_55_38, ↓g_55_39, ↓g_55_40, ↓g_55_41, ↓g_55_42, ↓g_55_43, ↓g_55_44, ↓g_55_47, ↓g_55_48, ↓g_55_49, ↓g_55_50, ↓g_55_51, ↓g_55_52, ↓g_55_53, ↓g_55_54, ↓al_56, ↓al_57, ↓al_58, ↓al_59, ↓al_61, ↓al_62, ↓al_63, ↓al_64, ↓al_65, ↓al_66, ↓al_67, ↓al_68, ↓al_69, ↓al_70, ↓al_71, ↓al_72, ↓al_73, ↓al_74, ↓al_75, ↓al_76, ↓al_77, ↓al_78, ↓al_79, ↓al_80, ↓al_81, ↓al_82, ↓al_83, ↓al_84, ↓al_85, ↓al_86, ↓al_87, ↓as_56, ↓as_57, ↓as_58, ↓as_59, ↓as_61, ↓as_62, ↓as_63, ↓as_64, ↓as_65, ↓as_66, ↓as_67, ↓as_68, ↓as_69, ↓as_70, ↓as_71, ↓as_72, ↓as_73, ↓as_74, ↓as_75, ↓as_76, ↓as_77, ↓as_78, ↓as_79, ↓as_80, ↓as_81, ↓as_82, ↓as_83, ↓as_84, ↓as_85, ↓as_86, ↓as_87, ↓gi_55, ↓pi_55, ↓ck_55, ↓gi_60, ↓pi_60, ↓ck_60, j0, j1, j2, j3, j4, j5, j6, j7, j8, j9, j10, j11, j12, j13, j14, j15, j16, j17, j18, j19, j20, j21, j24, j25, j30, j31, j32, j36, j41, j48, j49, j57, j59, j60, j63, j64, j81, j97, j99, j100, j122, j255, j300, j400, j500, j999, j1000, j24000, j_add, j_sub, j_mul, j_neg, j_lt, j_le, j_eq, nI_sI, nR_sI, nN_sI, nI_sR, nR_sR, nN_sR, Int.toNat_natCast, true_and, and_true, false_and, and_false, if_true, if_false, reduceIte, Nat.reduceEqDiff, Option.some.injEq, Prod.mk.injEq, k_of, k_add, k_sub, k_mul, k_neg, lg_ltJ, lg_gtJ, lg_eqJ, b_0, b_J0, b_J1, b_retZ, k0, k1, k2, k3, k10, k19, k20, k30, k40, k999, ↓in_b, ↓dayM_b, ↓gsrM_b, ↓isqM_b, Int.add_sub_cancel, not_true, not_false_eq_true, jn1, Bool.false_eq_true, Bool.true_eq_false, reduceCtorEq, ↓iwM h ha, ↓iwM h hc]
      rw [if_pos d, if_pos d2, wrM h]; rfl
theorem st_num (h11 : S 3 11 = 0) (h7 : S 3 7 ≠ -1) (h2 : S 3 7 ≠ 2) (h3 : S 3 7 ≠ 3) (h8 : S 3 8 < nar (S 3 7)) : stp L y p S = if tkn L y p = 3 ∧ nlo (S 3 7) ≤ vl L y p ∧ vl L y p ≤ nhi (S 3 7) (S 3 8) then ud (put S (S 3 7) (S 3 8) (vl L y p)) 3 8 (S 3 8 + 1) else ft S (if tkn L y p = 3 then 2 else 1) (stk L y p) := by
  have ea : af L y p (S 3 7) (S 3 8) = if tkn L y p = 3 then (if nlo (S 3 7) ≤ vl L y p ∧ vl L y p ≤ nhi (S 3 7) (S 3 8) then 0 else 2) else 1 := by
    unfold af
    rw [if_neg h2, if_neg h3]
  have ev : av L y p (S 3 7) = vl L y p := by
    unfold av
    rw [if_neg h2, if_neg h3]
  unfold stp
  rw [if_neg (fun x => x h11), if_neg h7, if_pos h8, ea, ev]
  by_cases c : tkn L y p = 3
  · rw [if_pos c]
    by_cases d : nlo (S 3 7) ≤ vl L y p ∧ vl L y p ≤ nhi (S 3 7) (S 3 8)
    · rw [if_pos d, if_pos rfl, if_pos ⟨c, d⟩]
    · rw [if_neg d, if_neg (by omega), if_neg (fun x => d x.2), if_pos c]
  · rw [if_neg c, if_neg (by omega), if_neg (fun x => c x.1), if_neg c]
theorem dm_fr (h : DrM S u) (f : Fr P5 u v) : DrM S v := by
  obtain ⟨h1, h2, h3, h4, h5⟩ := h
  have g : ∀ a k, ¬ (a = 55 ∧ 18 ≤ k ∧ k ≤ 21) → mI v a k = mI u a k := fun a k hn => f.2.2 a k fun hp => hn (by unfold P5 at hp; omega)
  refine ⟨fun k hk => ?_, fun k hk => ?_, fun k hk => ?_, ?_, ?_⟩
  · rw [g _ _ (by omega)]; exact h1 k hk
  · rw [g _ _ (by omega), g _ _ (by omega)]; exact h2 k hk
  · rw [g _ _ (by omega)]; exact h3 k hk
  · rw [g _ _ (by omega)]; exact h4
  · rw [g _ _ (by omega)]; exact h5
theorem flt_1 (hf : f ≠ 0) (h : stp L y p S = ft S f s) : Flt L y p S u (wr u f s) := by
  refine ⟨wr_fr, nxt L y p, ft S f s, by rw [← h]; exact st_one, show (1 : Int) ≠ 0 by omega, show f ≠ 0 from hf, ?_, ?_⟩
  · show mI (wr u f s) 55 22 = J f
    unfold wr
    rw [mI_sI, if_neg (by omega), mI_sI, if_pos ⟨rfl, rfl⟩]
  · show mI (wr u f s) 55 23 = J s
    unfold wr
    rw [mI_sI, if_pos ⟨rfl, rfl⟩]
theorem flt_t (f1 : Fr P5m u w) (h : St L y p S q T) (F : Flt L y q T w v) : Flt L y p S u v := by
  obtain ⟨f2, r, U, h2, h3⟩ := F
  exact ⟨f1.trans f2, r, U, st_tr h h2, h3⟩
/-- a number's argument -/
theorem arM (R : RelM L y p S u) (h11 : S 3 11 = 0) (h7 : S 3 7 ≠ -1) (h2 : S 3 7 ≠ 2) (h3 : S 3 7 ≠ 3) (h8 : S 3 8 < nar (S 3 7)) (el : nlo (S 3 7) = lo) (eh : nhi (S 3 7) (S 3 8) = hi) (b1 : 0 ≤ lo) (b2 : lo ≤ 9) (b3 : 0 ≤ hi) (b4 : hi ≤ 5000) : (∃ v, fX12_number 55 (J lo) (J hi) u = some (.inl (J (vl L y p)), v) ∧ Fr P5 u v ∧ RelM L y (nxt L y p) S v ∧ stp L y p S = ud (put S (S 3 7) (S 3 8) (vl L y p)) 3 8 (S 3 8 + 1)) ∨ ∃ v, fX12_number 55 (J lo) (J hi) u = some (.inr 60, v) ∧ Flt L y p S u v := by
  have hst := st_num (L := L) (y := y) (p := p) h11 h7 h2 h3 h8
  rw [el, eh] at hst
  rcases nuM R.1 b1 b2 b3 b4 with ⟨c, v, e, f1, t1⟩ | ⟨c, e⟩
  · rw [if_pos c] at hst
    exact Or.inl ⟨v, e, f1, ⟨t1, dm_fr R.2 f1⟩, hst⟩
  · rw [if_neg c] at hst
    exact Or.inr ⟨_, e, flt_1 (by split <;> omega) hst⟩
theorem rm_put {A B' a c : Nat} {x z : Int} (R : RelM L y q S v) (hh : (A = 55 ∧ B' < 5 ∧ a = 55 ∧ c = 5 + B') ∨ (A = 56 ∧ B' < 11 ∧ a = 58 ∧ c = B') ∨ (A = 57 ∧ B' < 11 ∧ a = 59 ∧ c = B')) : Fr P5m v (sI v a c (J x)) ∧ RelM L y q (ud (ud S A B' x) 3 8 z) (sI v a c (J x)) := by
  obtain ⟨⟨t1, t2, t3, t4, t5, t6⟩, d1, d2, d3, d4, d5⟩ := R
  have f1 : Fr P5m v (sI v a c (J x)) := Fr.rfl.sI (by unfold P5m; omega)
  have g : ∀ b k, ¬ (b = a ∧ k = c) → mI (sI v a c (J x)) b k = mI v b k := fun b k h => by rw [mI_sI, if_neg h]
  refine ⟨f1, ⟨t1, TpM_fr t2 f1 fun a k h => by unfold P5m at h; omega, ?_, ?_, ?_, fun h => ?_⟩, fun k hk => ?_, fun k hk => ⟨?_, ?_⟩, fun k hk => ?_, ?_, ?_⟩
  · rw [g _ _ (by omega)]; exact t3
  · rw [g _ _ (by omega)]; exact t4
  · rw [g _ _ (by omega)]; exact t5
  · rw [g _ _ (by omega)]; exact t6 h
  · rw [ud_at, if_neg (by omega), ud_at, mI_sI]
    by_cases e : 55 = A ∧ k = B'
    · rw [if_pos e, if_pos (by omega)]
    · rw [if_neg e, if_neg (by omega)]; exact d1 k hk
  · rw [ud_at, if_neg (by omega), ud_at, mI_sI]
    by_cases e : 56 = A ∧ k = B'
    · rw [if_pos e, if_pos (by omega)]
    · rw [if_neg e, if_neg (by omega)]; exact (d2 k hk).1
  · rw [ud_at, if_neg (by omega), ud_at, mI_sI]
    by_cases e : 57 = A ∧ k = B'
    · rw [if_pos e, if_pos (by omega)]
    · rw [if_neg e, if_neg (by omega)]; exact (d2 k hk).2
  · rw [ud_at, if_neg (by omega), ud_at, if_neg (by omega), g _ _ (by omega)]; exact d3 k hk
  · rw [ud_at, if_neg (by omega), ud_at, if_neg (by omega), g _ _ (by omega)]; exact d4
  · rw [ud_at, if_neg (by omega), ud_at, if_neg (by omega), g _ _ (by omega)]; exact d5
end ZARG
