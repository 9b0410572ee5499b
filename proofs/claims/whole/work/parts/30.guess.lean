/-! guess -/
theorem anyN_iff {p : Nat → Bool} : ∀ n : Nat, anyN p n = true ↔ ∃ k, k < n ∧ p k = true := by
  intro n
  induction n with
  | zero => exact ⟨fun h => absurd h (by simp [anyN]), fun ⟨k, h, _⟩ => by omega⟩
  | succ n ih =>
    rw [anyN, Bool.or_eq_true, ih]
    constructor
    · rintro (⟨k, h1, h2⟩ | h)
      · exact ⟨k, by omega, h2⟩
      · exact ⟨n, by omega, h⟩
    · rintro ⟨k, h1, h2⟩
      by_cases hk : k = n
      · subst hk; exact Or.inr h2
      · exact Or.inl ⟨k, by omega, h2⟩
/-- a loop that looks for the first place -/
theorem lp_find {S R : Type} {f : S → Option (S ⊕ R)} (st : Nat → S) (p : Nat → Bool) (rF : Nat → R) (rN : R) (n F : Nat) (hF : n < F) (h1 : ∀ k, k < n → p k = false → f (st k) = some (.inl (st (k + 1)))) (h2 : ∀ k, k < n → p k = true → f (st k) = some (.inr (rF k))) (h3 : f (st n) = some (.inr rN)) : lp f F (st 0) = some (if anyN p n = true then rF (fstN p 0 n) else rN) := by
  have go : ∀ (j k F : Nat), k + j = n → j < F → (∀ i, i < k → p i = false) → lp f F (st k) = some (if anyN p n = true then rF (fstN p k j) else rN) := by
    intro j
    induction j with
    | zero =>
      intro k F hk hF hp
      obtain ⟨F, rfl⟩ : ∃ F', F = F' + 1 := ⟨F - 1, by omega⟩
      obtain rfl : k = n := by omega
      rw [lp, h3, if_neg]
      · rfl
      · rw [anyN_iff]
        rintro ⟨i, w1, w2⟩
        rw [hp i w1] at w2; cases w2
    | succ j ih =>
      intro k F hk hF hp
      obtain ⟨F, rfl⟩ : ∃ F', F = F' + 1 := ⟨F - 1, by omega⟩
      cases hpk : p k with
      | true =>
        rw [lp, h2 k (by omega) hpk, if_pos ((anyN_iff n).mpr ⟨k, by omega, hpk⟩), fstN, if_pos hpk]
        rfl
      | false =>
        rw [lp, h1 k (by omega) hpk, fstN, if_neg (show ¬ p k = true by rw [hpk]; simp)]
        refine ih (k + 1) F (by omega) (by omega) fun i hi => ?_
        by_cases hik : i = k
        · subst hik; exact hpk
        · exact hp i (by omega)
  exact go n 0 F (by omega) (by omega) fun i hi => by omega
/-- a guess of g on q on a later day -/
def ltr (C : Sp) (g q : Nat) (d : Int) : Bool := anyN (fun k => decide (C 67 k = g ∧ C 68 k = q ∧ d < C 69 k)) (nG C)
theorem ltr_last {C : Sp} (hC : OkC C) {g q : Nat} {d : Int} : ltr C g q d = true ↔ ∃ i, lastD C g q 1000 (nG C) = some i ∧ d < C 69 i := by
  unfold ltr
  rw [anyN_iff]
  constructor
  · rintro ⟨k, hk, hp⟩
    have hp := of_decide_eq_true hp
    have ok := okg hC hk
    cases hL : lastD C g q 1000 (nG C) with
    | none => exact absurd ⟨hp.1, hp.2.1, by omega⟩ ((lastD_none _).mp hL k hk)
    | some i =>
      obtain ⟨w1, w2, w3, w4, w5⟩ := lastD_some _ hL
      refine ⟨i, rfl, ?_⟩
      by_cases hki : k = i
      · subst hki; exact hp.2.2
      · by_cases hlt : i < k
        · exact absurd ⟨hp.1, hp.2.1, by omega⟩ (w5 k hlt hk)
        · have := hC.2.2.2.2.1 k i (by omega) w1 (by rw [hp.1, w2]) (by rw [hp.2.1, w3])
          omega
  · rintro ⟨i, h1, h2⟩
    obtain ⟨w1, w2, w3, w4, w5⟩ := lastD_some _ h1
    exact ⟨i, w1, decide_eq_true ⟨w2, w3, h2⟩⟩
section GUESS
variable {C D : Sp} {n : Nat} {u : Mem} {β : Type} {g q : Nat} {d a b : Int}
theorem bhC {i : Nat} {x : Int} (hi : 88 + i < mN u) (f2 : mI u (88 + i) 2 = J x) (h1 : 0 ≤ d) (h2 : d ≤ 999) (h3 : 0 ≤ x) (h4 : x ≤ 999) : fX0_isBehind (some (88 + i)) (J d) u = some (B (d < x)) := by
  unfold fX0_isBehind
  rw [if_neg (by simp), gi_gs hi, f2, b_ite]
  exact b_some (j_lt d x (by omega) (by omega) (by omega) (by omega))
theorem ltrC (hS : SH u) (hC : OkC C) (hG : RCg C u) (hg : g < 20) (hq : q < 20) (h1 : 0 ≤ d) (h2 : d ≤ 999) : fX0_hasLaterGuess 10 (J g) (J q) (J d) u = some (B (ltr C g q d = true)) := by
  have e : ((g : Int) * 20 + (q : Int)).toNat = g * 20 + q := by omega
  unfold fX0_hasLaterGuess fX10_cell
  simp (disch := first | assumption | (simp only [SH_sI, SH_sL]; assumption) | omega) only [↓s_nm, ↓s_bnd2, ↓s_some, ↓s_suml, ↓s_sumr, ↓s_nz, ↓gi_q, ↓pi_q, ↓ck_q, ↓gi_gs, ↓gr_gs, ↓g_0_0, ↓g_0_1, ↓g_0_2, ↓g_0_3, ↓g_0_4, ↓g_0_5, ↓g_0_6, ↓g_0_7, ↓g_1_0, ↓g_3_0, ↓g_3_3, ↓g_4_0, ↓g_4_1, ↓g_7_0, ↓g_7_1, ↓g_10_0, ↓g_10_1, ↓g_10_2, ↓g_34_0, ↓g_34_1, ↓g_34_2, ↓g_34_3, ↓g_34_4, ↓g_34_5, ↓g_39_2, ↓g_39_3, ↓g_39_4, ↓g_39_5, ↓g_39_6, ↓g_39_7, ↓g_39_8, ↓g_39_9, ↓g_45_0, ↓g_45_1, ↓g_45_2, ↓g_45_4, ↓g_49_0, ↓g_49_1, ↓g_49_2, ↓g_49_3, ↓g_49_4, ↓g_49_5, ↓g_49_6, ↓al_2, ↓al_5, ↓al_6, ↓al_8, ↓al_9, ↓al_11, ↓al_12, ↓al_13, ↓al_35, ↓al_36, ↓al_37, ↓al_38, ↓al_40, ↓al_41, ↓al_42, ↓al_43, ↓al_44, ↓al_46, ↓al_47, ↓al_48, ↓al_50, ↓al_51, ↓al_52, ↓al_53, ↓al_54, ↓as_2, ↓as_5, ↓as_6, ↓as_8, ↓as_9, ↓as_12, ↓as_13, ↓as_35, ↓as_36, ↓as_37, ↓as_38, ↓as_40, ↓as_41, ↓as_42, ↓as_43, ↓as_44, ↓as_46, ↓as_47, ↓as_48, ↓as_50, ↓as_51, ↓as_52, ↓as_53, ↓as_54, ↓gi_0, ↓pi_0, ↓ck_0, ↓gi_1, ↓pi_1, ↓ck_1, ↓gi_3, ↓pi_3, ↓ck_3, ↓gi_4, ↓pi_4, ↓ck_4, ↓gi_7, ↓pi_7, ↓ck_7, ↓gi_10, ↓pi_10, ↓ck_10, ↓gi_34, ↓pi_34, ↓ck_34, ↓gi_39, ↓pi_39, ↓ck_39, ↓gi_45, ↓pi_45, ↓ck_45, ↓gi_49, ↓pi_49, ↓ck_49, j0, j1, j2, j3, j4, j5, j6, j7, j8, j9, j10, j11, j12, j13, j14, j15, j16, j17, j18, j19, j20, j21, j24, j25, j30, j31, j32, j36, j41, j48, j49, j57, j59, j60, j63, j64, j81, j97, j99, j100, j122, j255, j300, j400, j500, j999, j1000, j24000, j_add, j_sub, j_mul, j_neg, j_lt, j_le, j_eq, mI_sI, mR_sI, mN_sI, mI_sR, mR_sR, mN_sR, Int.toNat_natCast, true_and, and_true, false_and, and_false, if_true, if_false, reduceIte, Nat.reduceEqDiff, Option.some.injEq, Prod.mk.injEq, k_of, k_add, k_sub, k_mul, k_neg, lg_lt, lg_gt, lg_eq, b_0, b_J0, b_J1, b_retZ, k0, k1, k2, k3, k10, k19, k20, k30, k40, k999, ↓dayC_b, ↓gsrC_b, ↓tenC_b, ↓zooC_b, ↓isqC_b, Int.add_sub_cancel, not_true, not_false_eq_true, jn1, e, hG.2.2.1 g q hg hq]
  cases hL : lastD C g q 1000 (nG C) with
  | none =>
    rw [b_f]
    · rfl
    · rw [ltr_last hC]
      rintro ⟨i, w, -⟩
      rw [hL] at w; cases w
  | some i =>
    obtain ⟨w1, -⟩ := lastD_some _ hL
    have ok := okg hC w1
    obtain ⟨f0, f1, f2, f3, f4⟩ := hG.2.1 i w1
    have hmN : 88 + i < mN u := by have := hG.1; omega
    show (fX0_isBehind (some (88 + i)) (J d) u).bind (fun v4 => retZ v4) = _
    rw [bhC hmN f2 h1 h2 (by omega) (by omega)]
    show retZ (B (d < C 69 i)) = _
    rw [b_retZ]
    refine b_some ?_
    rw [ltr_last hC, hL]
    exact ⟨fun w => ⟨i, rfl, w⟩, fun ⟨j, w1, w2⟩ => by cases w1; exact w2⟩
theorem ltrM (hS : SH u) (hC : OkC C) (hM : RM C D u) (hg : g < 20) (hq : q < 20) (h1 : 0 ≤ d) (h2 : d ≤ 999) (t : Int32) : lp (fun s : Int32 => bX12_guess_69 55 (J g) (J q) (J d) t u s) FU (0 : Int32) = some (if ltr C g q d = true then .inr () else .inl ()) := by
  have hgg := hC.g
  refine lp_find (f := fun s : Int32 => bX12_guess_69 55 (J g) (J q) (J d) t u s) (fun k => J (k : Int)) (fun k => decide (C 67 k = g ∧ C 68 k = q ∧ d < C 69 k)) (fun _ => .inr ()) (.inl ()) (nG C) FU (FU_gt (by omega)) (fun k hk hp => ?_) (fun k hk hp => ?_) ?_
  · have hp := of_decide_eq_false hp
    have ok := okg hC hk
    show bX12_guess_69 55 (J g) (J q) (J d) t u _ = _
    unfold bX12_guess_69
    simp (disch := first | assumption | (simp only [SH_sI, SH_sL]; assumption) | omega) only [↓s_nm, ↓s_bnd2, ↓s_some, ↓s_suml, ↓s_sumr, ↓s_nz, ↓gi_q, ↓pi_q, ↓ck_q, ↓gi_gs, ↓gr_gs, ↓g_55_10, ↓g_55_11, ↓g_55_12, ↓g_55_13, ↓g_55_14, ↓g_55_15, ↓g_55_24, ↓g_55_28, ↓g_55_29, ↓g_55_30, ↓g_55_31, ↓g_55_32, ↓g_55_33, ↓g_55_34, ↓g_55_35, ↓g_55_36, ↓g_55_37, ↓g_55_38, ↓g_55_39, ↓g_55_40, ↓g_55_41, ↓g_55_42, ↓g_55_43, ↓g_55_44, ↓g_55_47, ↓g_55_48, ↓g_55_49, ↓g_55_50, ↓g_55_51, ↓g_55_52, ↓g_55_53, ↓g_55_54, ↓al_56, ↓al_57, ↓al_58, ↓al_59, ↓al_61, ↓al_62, ↓al_63, ↓al_64, ↓al_65, ↓al_66, ↓al_67, ↓al_68, ↓al_69, ↓al_70, ↓al_71, ↓al_72, ↓al_73, ↓al_74, ↓al_75, ↓al_76, ↓al_77, ↓al_78, ↓al_79, ↓al_80, ↓al_81, ↓al_82, ↓al_83, ↓al_84, ↓al_85, ↓al_86, ↓al_87, ↓as_56, ↓as_57, ↓as_58, ↓as_59, ↓as_61, ↓as_62, ↓as_63, ↓as_64, ↓as_65, ↓as_66, ↓as_67, ↓as_68, ↓as_69, ↓as_70, ↓as_71, ↓as_72, ↓as_73, ↓as_74, ↓as_75, ↓as_76, ↓as_77, ↓as_78, ↓as_79, ↓as_80, ↓as_81, ↓as_82, ↓as_83, ↓as_84, ↓as_85, ↓as_86, ↓as_87, ↓gi_55, ↓pi_55, ↓ck_55, ↓gi_60, ↓pi_60, ↓ck_60, j0, j1, j2, j3, j4, j5, j6, j7, j8, j9, j10, j11, j12, j13, j14, j15, j16, j17, j18, j19, j20, j21, j24, j25, j30, j31, j32, j36, j41, j48, j49, j57, j59, j60, j63, j64, j81, j97, j99, j100, j122, j255, j300, j400, j500, j999, j1000, j24000, j_add, j_sub, j_mul, j_neg, j_lt, j_le, j_eq, mI_sI, mR_sI, mN_sI, mI_sR, mR_sR, mN_sR, Int.toNat_natCast, true_and, and_true, false_and, and_false, if_true, if_false, reduceIte, Nat.reduceEqDiff, Option.some.injEq, Prod.mk.injEq, k_of, k_add, k_sub, k_mul, k_neg, lg_lt, lg_gt, lg_eq, b_0, b_J0, b_J1, b_retZ, k0, k1, k2, k3, k10, k19, k20, k30, k40, k999, ↓in_b, ↓dayM_b, ↓gsrM_b, ↓isqM_b, Int.add_sub_cancel, not_true, not_false_eq_true, jn1, m_55_0 hM, m_55_1 hM, m_55_2 hM, m_55_3 hM, m_55_4 hM, m_55_25 hM, m_55_26 hM, m_55_16 hM, m_55_22 hM, m_55_23 hM, m_55_27 hM, m_56 hM, m_57 hM, m_63 hM, m_64 hM, m_65 hM, m_66 hM, m_67 hM, m_68 hM, m_69 hM, m_70 hM, m_61 hM, m_71 hM, m_72 hM, m_73 hM, m_84 hM, show (k : Int) < C 55 26 by omega]
    (repeat' split) <;> first | rfl | (exfalso; omega)
  · have hp := of_decide_eq_true hp
    have ok := okg hC hk
    show bX12_guess_69 55 (J g) (J q) (J d) t u _ = _
    unfold bX12_guess_69
    simp (disch := first | assumption | (simp only [SH_sI, SH_sL]; assumption) | omega) only [↓s_nm, ↓s_bnd2, ↓s_some, ↓s_suml, ↓s_sumr, ↓s_nz, ↓gi_q, ↓pi_q, ↓ck_q, ↓gi_gs, ↓gr_gs, ↓g_55_10, ↓g_55_11, ↓g_55_12, ↓g_55_13, ↓g_55_14, ↓g_55_15, ↓g_55_24, ↓g_55_28, ↓g_55_29, ↓g_55_30, ↓g_55_31, ↓g_55_32, ↓g_55_33, ↓g_55_34, ↓g_55_35, ↓g_55_36, ↓g_55_37, ↓g_55_38, ↓g_55_39, ↓g_55_40, ↓g_55_41, ↓g_55_42, ↓g_55_43, ↓g_55_44, ↓g_55_47, ↓g_55_48, ↓g_55_49, ↓g_55_50, ↓g_55_51, ↓g_55_52, ↓g_55_53, ↓g_55_54, ↓al_56, ↓al_57, ↓al_58, ↓al_59, ↓al_61, ↓al_62, ↓al_63, ↓al_64, ↓al_65, ↓al_66, ↓al_67, ↓al_68, ↓al_69, ↓al_70, ↓al_71, ↓al_72, ↓al_73, ↓al_74, ↓al_75, ↓al_76, ↓al_77, ↓al_78, ↓al_79, ↓al_80, ↓al_81, ↓al_82, ↓al_83, ↓al_84, ↓al_85, ↓al_86, ↓al_87, ↓as_56, ↓as_57, ↓as_58, ↓as_59, ↓as_61, ↓as_62, ↓as_63, ↓as_64, ↓as_65, ↓as_66, ↓as_67, ↓as_68, ↓as_69, ↓as_70, ↓as_71, ↓as_72, ↓as_73, ↓as_74, ↓as_75, ↓as_76, ↓as_77, ↓as_78, ↓as_79, ↓as_80, ↓as_81, ↓as_82, ↓as_83, ↓as_84, ↓as_85, ↓as_86, ↓as_87, ↓gi_55, ↓pi_55, ↓ck_55, ↓gi_60, ↓pi_60, ↓ck_60, j0, j1, j2, j3, j4, j5, j6, j7, j8, j9, j10, j11, j12, j13, j14, j15, j16, j17, j18, j19, j20, j21, j24, j25, j30, j31, j32, j36, j41, j48, j49, j57, j59, j60, j63, j64, j81, j97, j99, j100, j122, j255, j300, j400, j500, j999, j1000, j24000, j_add, j_sub, j_mul, j_neg, j_lt, j_le, j_eq, mI_sI, mR_sI, mN_sI, mI_sR, mR_sR, mN_sR, Int.toNat_natCast, true_and, and_true, false_and, and_false, if_true, if_false, reduceIte, Nat.reduceEqDiff, Option.some.injEq, Prod.mk.injEq, k_of, k_add, k_sub, k_mul, k_neg, lg_lt, lg_gt, lg_eq, b_0, b_J0, b_J1, b_retZ, k0, k1, k2, k3, k10, k19, k20, k30, k40, k999, ↓in_b, ↓dayM_b, ↓gsrM_b, ↓isqM_b, Int.add_sub_cancel, not_true, not_false_eq_true, jn1, m_55_0 hM, m_55_1 hM, m_55_2 hM, m_55_3 hM, m_55_4 hM, m_55_25 hM, m_55_26 hM, m_55_16 hM, m_55_22 hM, m_55_23 hM, m_55_27 hM, m_56 hM, m_57 hM, m_63 hM, m_64 hM, m_65 hM, m_66 hM, m_67 hM, m_68 hM, m_69 hM, m_70 hM, m_61 hM, m_71 hM, m_72 hM, m_73 hM, m_84 hM, show (k : Int) < C 55 26 by omega, hp]
  · show bX12_guess_69 55 (J g) (J q) (J d) t u _ = _
    unfold bX12_guess_69
    simp (disch := first | assumption | (simp only [SH_sI, SH_sL]; assumption) | omega) only [↓s_nm, ↓s_bnd2, ↓s_some, ↓s_suml, ↓s_sumr, ↓s_nz, ↓gi_q, ↓pi_q, ↓ck_q, ↓gi_gs, ↓gr_gs, ↓g_55_10, ↓g_55_11, ↓g_55_12, ↓g_55_13, ↓g_55_14, ↓g_55_15, ↓g_55_24, ↓g_55_28, ↓g_55_29, ↓g_55_30, ↓g_55_31, ↓g_55_32, ↓g_55_33, ↓g_55_34, ↓g_55_35, ↓g_55_36, ↓g_55_37, ↓g_55_38, ↓g_55_39, ↓g_55_40, ↓g_55_41, ↓g_55_42, ↓g_55_43, ↓g_55_44, ↓g_55_47, ↓g_55_48, ↓g_55_49, ↓g_55_50, ↓g_55_51, ↓g_55_52, ↓g_55_53, ↓g_55_54, ↓al_56, ↓al_57, ↓al_58, ↓al_59, ↓al_61, ↓al_62, ↓al_63, ↓al_64, ↓al_65, ↓al_66, ↓al_67, ↓al_68, ↓al_69, ↓al_70, ↓al_71, ↓al_72, ↓al_73, ↓al_74, ↓al_75, ↓al_76, ↓al_77, ↓al_78, ↓al_79, ↓al_80, ↓al_81, ↓al_82, ↓al_83, ↓al_84, ↓al_85, ↓al_86, ↓al_87, ↓as_56, ↓as_57, ↓as_58, ↓as_59, ↓as_61, ↓as_62, ↓as_63, ↓as_64, ↓as_65, ↓as_66, ↓as_67, ↓as_68, ↓as_69, ↓as_70, ↓as_71, ↓as_72, ↓as_73, ↓as_74, ↓as_75, ↓as_76, ↓as_77, ↓as_78, ↓as_79, ↓as_80, ↓as_81, ↓as_82, ↓as_83, ↓as_84, ↓as_85, ↓as_86, ↓as_87, ↓gi_55, ↓pi_55, ↓ck_55, ↓gi_60, ↓pi_60, ↓ck_60, j0, j1, j2, j3, j4, j5, j6, j7, j8, j9, j10, j11, j12, j13, j14, j15, j16, j17, j18, j19, j20, j21, j24, j25, j30, j31, j32, j36, j41, j48, j49, j57, j59, j60, j63, j64, j81, j97, j99, j100, j122, j255, j300, j400, j500, j999, j1000, j24000, j_add, j_sub, j_mul, j_neg, j_lt, j_le, j_eq, mI_sI, mR_sI, mN_sI, mI_sR, mR_sR, mN_sR, Int.toNat_natCast, true_and, and_true, false_and, and_false, if_true, if_false, reduceIte, Nat.reduceEqDiff, Option.some.injEq, Prod.mk.injEq, k_of, k_add, k_sub, k_mul, k_neg, lg_lt, lg_gt, lg_eq, b_0, b_J0, b_J1, b_retZ, k0, k1, k2, k3, k10, k19, k20, k30, k40, k999, ↓in_b, ↓dayM_b, ↓gsrM_b, ↓isqM_b, Int.add_sub_cancel, not_true, not_false_eq_true, jn1, m_55_0 hM, m_55_1 hM, m_55_2 hM, m_55_3 hM, m_55_4 hM, m_55_25 hM, m_55_26 hM, m_55_16 hM, m_55_22 hM, m_55_23 hM, m_55_27 hM, m_56 hM, m_57 hM, m_63 hM, m_64 hM, m_65 hM, m_66 hM, m_67 hM, m_68 hM, m_69 hM, m_70 hM, m_61 hM, m_71 hM, m_72 hM, m_73 hM, m_84 hM, show ¬ (((nG C : Nat) : Int) < C 55 26) by omega]
theorem addG_loop {l : List Nat} {m : Nat} {t5 t6 : Int32} {t7 : Nat} (hS : SH u) (hN : 88 + m ≤ mN u) (hm : m ≤ 299) (hl : l.length = m) (hlt : ∀ i, i ∈ l → i < m) (hd : ∀ i, i < m → mI u (88 + i) 2 = J (C 69 i) ∧ 0 ≤ C 69 i ∧ C 69 i ≤ 999) (hb : ∀ p i, l[p]? = some i → mR u 13 p = some (88 + i)) (h1 : 0 ≤ d) (h2 : d ≤ 999) :
    ∃ r, lp (fun s : Int32 × Mem => bX0_addGuess_46 10 t5 (J d) t6 t7 s.1 s.2) FU (J m, u) = some r ∧ ∃ p : Nat, p ≤ m ∧ r.1 = J p ∧ (∀ a k, mI r.2 a k = mI u a k) ∧ mN r.2 = mN u ∧ (∀ a k, a ≠ 13 → mR r.2 a k = mR u a k) ∧ (∀ j, j ≤ m → mR r.2 13 j = if p < j then mR u 13 (j - 1) else mR u 13 j) ∧ (∀ j i, p ≤ j → l[j]? = some i → d < C 69 i) ∧ (∀ i, 0 < p → l[p - 1]? = some i → C 69 i ≤ d) := by
  refine lp_ind (f := fun s : Int32 × Mem => bX0_addGuess_46 10 t5 (J d) t6 t7 s.1 s.2) (fun k s => k ≤ m ∧ s.1 = J ((m - k : Nat) : Int) ∧ (∀ a k, mI s.2 a k = mI u a k) ∧ mN s.2 = mN u ∧ (∀ a k, a ≠ 13 → mR s.2 a k = mR u a k) ∧ (∀ j, j ≤ m → mR s.2 13 j = if m - k < j then mR u 13 (j - 1) else mR u 13 j) ∧ (∀ j i, m - k ≤ j → l[j]? = some i → d < C 69 i)) m ?_ FU (FU_gt (by omega)) (J m, u) ?_
  · rintro k ⟨s, v⟩ hk ⟨-, e1, e2, e3, e4, e5, e6⟩
    simp only at e1 e2 e3 e4 e5 e6
    have hSv : SH v := SH_same hS e3 fun a k ha => e4 a k (by omega)
    subst e1
    by_cases hk0 : m - k = 0
    · refine Or.inr ⟨(J ((m - k : Nat) : Int), v), ?_, m - k, by omega, rfl, e2, e3, e4, e5, e6, fun i w _ => by omega⟩
      show bX0_addGuess_46 10 t5 (J d) t6 t7 _ _ = _
      unfold bX0_addGuess_46
      rw [hk0]
      simp (disch := first | assumption | (simp only [SH_sI, SH_sL]; assumption) | omega) only [↓s_nm, ↓s_bnd2, ↓s_some, ↓s_suml, ↓s_sumr, ↓s_nz, ↓gi_q, ↓pi_q, ↓ck_q, ↓gi_gs, ↓gr_gs, ↓g_0_0, ↓g_0_1, ↓g_0_2, ↓g_0_3, ↓g_0_4, ↓g_0_5, ↓g_0_6, ↓g_0_7, ↓g_1_0, ↓g_3_0, ↓g_3_3, ↓g_4_0, ↓g_4_1, ↓g_7_0, ↓g_7_1, ↓g_10_0, ↓g_10_1, ↓g_10_2, ↓g_34_0, ↓g_34_1, ↓g_34_2, ↓g_34_3, ↓g_34_4, ↓g_34_5, ↓g_39_2, ↓g_39_3, ↓g_39_4, ↓g_39_5, ↓g_39_6, ↓g_39_7, ↓g_39_8, ↓g_39_9, ↓g_45_0, ↓g_45_1, ↓g_45_2, ↓g_45_4, ↓g_49_0, ↓g_49_1, ↓g_49_2, ↓g_49_3, ↓g_49_4, ↓g_49_5, ↓g_49_6, ↓al_2, ↓al_5, ↓al_6, ↓al_8, ↓al_9, ↓al_11, ↓al_12, ↓al_13, ↓al_35, ↓al_36, ↓al_37, ↓al_38, ↓al_40, ↓al_41, ↓al_42, ↓al_43, ↓al_44, ↓al_46, ↓al_47, ↓al_48, ↓al_50, ↓al_51, ↓al_52, ↓al_53, ↓al_54, ↓as_2, ↓as_5, ↓as_6, ↓as_8, ↓as_9, ↓as_12, ↓as_13, ↓as_35, ↓as_36, ↓as_37, ↓as_38, ↓as_40, ↓as_41, ↓as_42, ↓as_43, ↓as_44, ↓as_46, ↓as_47, ↓as_48, ↓as_50, ↓as_51, ↓as_52, ↓as_53, ↓as_54, ↓gi_0, ↓pi_0, ↓ck_0, ↓gi_1, ↓pi_1, ↓ck_1, ↓gi_3, ↓pi_3, ↓ck_3, ↓gi_4, ↓pi_4, ↓ck_4, ↓gi_7, ↓pi_7, ↓ck_7, ↓gi_10, ↓pi_10, ↓ck_10, ↓gi_34, ↓pi_34, ↓ck_34, ↓gi_39, ↓pi_39, ↓ck_39, ↓gi_45, ↓pi_45, ↓ck_45, ↓gi_49, ↓pi_49, ↓ck_49, j0, j1, j2, j3, j4, j5, j6, j7, j8, j9, j10, j11, j12, j13, j14, j15, j16, j17, j18, j19, j20, j21, j24, j25, j30, j31, j32, j36, j41, j48, j49, j57, j59, j60, j63, j64, j81, j97, j99, j100, j122, j255, j300, j400, j500, j999, j1000, j24000, j_add, j_sub, j_mul, j_neg, j_lt, j_le, j_eq, mI_sI, mR_sI, mN_sI, mI_sR, mR_sR, mN_sR, Int.toNat_natCast, true_and, and_true, false_and, and_false, if_true, if_false, reduceIte, Nat.reduceEqDiff, Option.some.injEq, Prod.mk.injEq, k_of, k_add, k_sub, k_mul, k_neg, lg_lt, lg_gt, lg_eq, b_0, b_J0, b_J1, b_retZ, k0, k1, k2, k3, k10, k19, k20, k30, k40, k999, ↓dayC_b, ↓gsrC_b, ↓tenC_b, ↓zooC_b, ↓isqC_b, Int.add_sub_cancel, not_true, not_false_eq_true, jn1, show ¬ (0 : Int) < ((0 : Nat) : Int) by omega]
    · obtain ⟨i, hi⟩ : ∃ i, l[m - k - 1]? = some i := ⟨l[m - k - 1]'(by omega), List.getElem?_eq_getElem _⟩
      have hil : i < m := hlt i (List.mem_of_getElem? hi)
      obtain ⟨f2, f3, f4⟩ := hd i hil
      have eb : mR v 13 (m - k - 1) = some (88 + i) := by
        rw [e5 _ (by omega), if_neg (by omega)]; exact hb _ _ hi
      have et : (((m - k : Nat) : Int) - 1).toNat = m - k - 1 := by omega
      have hN2 : 88 + i < mN v := by omega
      have hok : okc v (88 + i) 3 = true := ok_g hN2
      have hbh : fX0_isBehind (some (88 + i)) (J d) v = some (B (d < C 69 i)) := bhC hN2 (by rw [e2]; exact f2) h1 h2 f3 f4
      by_cases w : d < C 69 i
      · refine Or.inl ⟨by omega, (J ((m - (k + 1) : Nat) : Int), sR v 13 (m - k) (some (88 + i))), ?_, by omega, rfl, e2, e3, fun a j ha => ?_, fun j hj => ?_, fun j x hj hx => ?_⟩
        · show bX0_addGuess_46 10 t5 (J d) t6 t7 _ _ = _
          unfold bX0_addGuess_46
          simp (disch := first | assumption | (simp only [SH_sI, SH_sL]; assumption) | omega) only [↓s_nm, ↓s_bnd2, ↓s_some, ↓s_suml, ↓s_sumr, ↓s_nz, ↓gi_q, ↓pi_q, ↓ck_q, ↓gi_gs, ↓gr_gs, ↓g_0_0, ↓g_0_1, ↓g_0_2, ↓g_0_3, ↓g_0_4, ↓g_0_5, ↓g_0_6, ↓g_0_7, ↓g_1_0, ↓g_3_0, ↓g_3_3, ↓g_4_0, ↓g_4_1, ↓g_7_0, ↓g_7_1, ↓g_10_0, ↓g_10_1, ↓g_10_2, ↓g_34_0, ↓g_34_1, ↓g_34_2, ↓g_34_3, ↓g_34_4, ↓g_34_5, ↓g_39_2, ↓g_39_3, ↓g_39_4, ↓g_39_5, ↓g_39_6, ↓g_39_7, ↓g_39_8, ↓g_39_9, ↓g_45_0, ↓g_45_1, ↓g_45_2, ↓g_45_4, ↓g_49_0, ↓g_49_1, ↓g_49_2, ↓g_49_3, ↓g_49_4, ↓g_49_5, ↓g_49_6, ↓al_2, ↓al_5, ↓al_6, ↓al_8, ↓al_9, ↓al_11, ↓al_12, ↓al_13, ↓al_35, ↓al_36, ↓al_37, ↓al_38, ↓al_40, ↓al_41, ↓al_42, ↓al_43, ↓al_44, ↓al_46, ↓al_47, ↓al_48, ↓al_50, ↓al_51, ↓al_52, ↓al_53, ↓al_54, ↓as_2, ↓as_5, ↓as_6, ↓as_8, ↓as_9, ↓as_12, ↓as_13, ↓as_35, ↓as_36, ↓as_37, ↓as_38, ↓as_40, ↓as_41, ↓as_42, ↓as_43, ↓as_44, ↓as_46, ↓as_47, ↓as_48, ↓as_50, ↓as_51, ↓as_52, ↓as_53, ↓as_54, ↓gi_0, ↓pi_0, ↓ck_0, ↓gi_1, ↓pi_1, ↓ck_1, ↓gi_3, ↓pi_3, ↓ck_3, ↓gi_4, ↓pi_4, ↓ck_4, ↓gi_7, ↓pi_7, ↓ck_7, ↓gi_10, ↓pi_10, ↓ck_10, ↓gi_34, ↓pi_34, ↓ck_34, ↓gi_39, ↓pi_39, ↓ck_39, ↓gi_45, ↓pi_45, ↓ck_45, ↓gi_49, ↓pi_49, ↓ck_49, j0, j1, j2, j3, j4, j5, j6, j7, j8, j9, j10, j11, j12, j13, j14, j15, j16, j17, j18, j19, j20, j21, j24, j25, j30, j31, j32, j36, j41, j48, j49, j57, j59, j60, j63, j64, j81, j97, j99, j100, j122, j255, j300, j400, j500, j999, j1000, j24000, j_add, j_sub, j_mul, j_neg, j_lt, j_le, j_eq, mI_sI, mR_sI, mN_sI, mI_sR, mR_sR, mN_sR, Int.toNat_natCast, true_and, and_true, false_and, and_false, if_true, if_false, reduceIte, Nat.reduceEqDiff, Option.some.injEq, Prod.mk.injEq, k_of, k_add, k_sub, k_mul, k_neg, lg_lt, lg_gt, lg_eq, b_0, b_J0, b_J1, b_retZ, k0, k1, k2, k3, k10, k19, k20, k30, k40, k999, ↓dayC_b, ↓gsrC_b, ↓tenC_b, ↓zooC_b, ↓isqC_b, Int.add_sub_cancel, not_true, not_false_eq_true, jn1, et, eb, hbh, e2, f2, w, show (0 : Int) < ((m - k : Nat) : Int) by omega]
          have : ((m - k : Nat) : Int) + -1 = ((m - (k + 1) : Nat) : Int) := by omega
          rw [this]
        · show mR (sR v 13 (m - k) (some (88 + i))) a j = _
          rw [mR_sR, if_neg (by omega)]; exact e4 a j ha
        · show mR (sR v 13 (m - k) (some (88 + i))) 13 j = _
          rw [mR_sR]
          by_cases hj1 : j = m - k
          · rw [if_pos ⟨rfl, hj1⟩, if_pos (by omega), hj1, hb _ _ hi]
          · rw [if_neg (fun h => hj1 h.2), e5 j hj]
            by_cases hj2 : m - k < j
            · rw [if_pos hj2, if_pos (by omega)]
            · rw [if_neg hj2, if_neg (by omega)]
        · by_cases hj1 : j = m - k - 1
          · subst hj1; rw [hi] at hx; cases hx; exact w
          · exact e6 j x (by omega) hx
      · refine Or.inr ⟨(J ((m - k : Nat) : Int), v), ?_, m - k, by omega, rfl, e2, e3, e4, e5, e6, fun x _ hx => by rw [hi] at hx; cases hx; omega⟩
        show bX0_addGuess_46 10 t5 (J d) t6 t7 _ _ = _
        unfold bX0_addGuess_46
        simp (disch := first | assumption | (simp only [SH_sI, SH_sL]; assumption) | omega) only [↓s_nm, ↓s_bnd2, ↓s_some, ↓s_suml, ↓s_sumr, ↓s_nz, ↓gi_q, ↓pi_q, ↓ck_q, ↓gi_gs, ↓gr_gs, ↓g_0_0, ↓g_0_1, ↓g_0_2, ↓g_0_3, ↓g_0_4, ↓g_0_5, ↓g_0_6, ↓g_0_7, ↓g_1_0, ↓g_3_0, ↓g_3_3, ↓g_4_0, ↓g_4_1, ↓g_7_0, ↓g_7_1, ↓g_10_0, ↓g_10_1, ↓g_10_2, ↓g_34_0, ↓g_34_1, ↓g_34_2, ↓g_34_3, ↓g_34_4, ↓g_34_5, ↓g_39_2, ↓g_39_3, ↓g_39_4, ↓g_39_5, ↓g_39_6, ↓g_39_7, ↓g_39_8, ↓g_39_9, ↓g_45_0, ↓g_45_1, ↓g_45_2, ↓g_45_4, ↓g_49_0, ↓g_49_1, ↓g_49_2, ↓g_49_3, ↓g_49_4, ↓g_49_5, ↓g_49_6, ↓al_2, ↓al_5, ↓al_6, ↓al_8, ↓al_9, ↓al_11, ↓al_12, ↓al_13, ↓al_35, ↓al_36, ↓al_37, ↓al_38, ↓al_40, ↓al_41, ↓al_42, ↓al_43, ↓al_44, ↓al_46, ↓al_47, ↓al_48, ↓al_50, ↓al_51, ↓al_52, ↓al_53, ↓al_54, ↓as_2, ↓as_5, ↓as_6, ↓as_8, ↓as_9, ↓as_12, ↓as_13, ↓as_35, ↓as_36, ↓as_37, ↓as_38, ↓as_40, ↓as_41, ↓as_42, ↓as_43, ↓as_44, ↓as_46, ↓as_47, ↓as_48, ↓as_50, ↓as_51, ↓as_52, ↓as_53, ↓as_54, ↓gi_0, ↓pi_0, ↓ck_0, ↓gi_1, ↓pi_1, ↓ck_1, ↓gi_3, ↓pi_3, ↓ck_3, ↓gi_4, ↓pi_4, ↓ck_4, ↓gi_7, ↓pi_7, ↓ck_7, ↓gi_10, ↓pi_10, ↓ck_10, ↓gi_34, ↓pi_34, ↓ck_34, ↓gi_39, ↓pi_39, ↓ck_39, ↓gi_45, ↓pi_45, ↓ck_45, ↓gi_49, ↓pi_49, ↓ck_49, j0, j1, j2, j3, j4, j5, j6, j7, j8, j9, j10, j11, j12, j13, j14, j15, j16, j17, j18, j19, j20, j21, j24, j25, j30, j31, j32, j36, j41, j48, j49, j57, j59, j60, j63, j64, j81, j97, j99, j100, j122, j255, j300, j400, j500, j999, j1000, j24000, j_add, j_sub, j_mul, j_neg, j_lt, j_le, j_eq, mI_sI, mR_sI, mN_sI, mI_sR, mR_sR, mN_sR, Int.toNat_natCast, true_and, and_true, false_and, and_false, if_true, if_false, reduceIte, Nat.reduceEqDiff, Option.some.injEq, Prod.mk.injEq, k_of, k_add, k_sub, k_mul, k_neg, lg_lt, lg_gt, lg_eq, b_0, b_J0, b_J1, b_retZ, k0, k1, k2, k3, k10, k19, k20, k30, k40, k999, ↓dayC_b, ↓gsrC_b, ↓tenC_b, ↓zooC_b, ↓isqC_b, Int.add_sub_cancel, not_true, not_false_eq_true, jn1, et, eb, hbh, e2, f2, w, show (0 : Int) < ((m - k : Nat) : Int) by omega]
  · refine ⟨by omega, rfl, fun _ _ => rfl, rfl, fun _ _ _ => rfl, fun j hj => ?_, fun j i hj hx => ?_⟩
    · rw [if_neg (by omega)]
    · have : j < l.length := (List.getElem?_eq_some_iff.mp hx).1
      omega
end GUESS
