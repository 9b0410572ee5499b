/-! rules: the class's loop -/
section XLOOP
variable {L : Nat} {y : Nat → Int} {S : Sp} {p : Nat}
theorem stp_end (h : tkn L y p = 0) : stp L y p S 3 11 ≠ 0 := by
  have hi : ∀ i, ¬ isw L y p i := fun i x => by have := x.1; omega
  have hk : key L y p = -1 := by
    unfold key
    rw [if_neg (hi 0), if_neg (hi 1), if_neg (hi 2), if_neg (hi 3), if_neg (hi 4), if_neg (hi 5)]
  have ha : ∀ k j, af L y p k j = 1 := fun k j => by
    unfold af
    rw [if_neg (show ¬ (isw L y p 6 ∨ isw L y p 7) from fun x => x.elim (hi 6) (hi 7)), if_neg (show ¬ (isw L y p 8 ∨ isw L y p 9) from fun x => x.elim (hi 8) (hi 9)), if_neg (show ¬ (tkn L y p = 3) by omega)]
    (repeat' split) <;> rfl
  have o : ∀ f s, ft S f s 3 11 ≠ 0 := fun f s => by
    show (1 : Int) ≠ 0
    omega
  have o2 : ud S 3 11 1 3 11 ≠ 0 := by
    show (1 : Int) ≠ 0
    omega
  unfold stp
  rw [if_pos h, ha, if_neg (show ¬ ((1 : Int) = 0) by omega), if_neg (show ¬ (tkn L y p = 4) by omega)]
  split
  · assumption
  · split
    · exact o2
    · split
      · exact o _ _
      · exact o _ _
theorem lpC : ∀ (F p i : Nat) (S : Sp) (u : Mem), RelC L y p S u → Wf L p S → (S 3 11 = 0 → i ≤ p ∧ L + 2 ≤ F + p) → (S 3 11 ≠ 0 → i ≤ 501 ∧ 1 ≤ F) → ∃ N q v, lp (fun s : Int32 × Mem => bX6_readText_6 3 s.1 s.2) F (J (i : Nat), u) = some v ∧ Fr P6c u v ∧ RelC L y q (itA L y N p S) v ∧ Wf L q (itA L y N p S) ∧ itA L y N p S 3 11 ≠ 0 := by
  intro F
  induction F with
  | zero =>
    intro p i S u R hw h1 h2
    exfalso
    have := R.1
    by_cases c : S 3 11 = 0
    · have := h1 c; omega
    · have := h2 c; omega
  | succ F ih =>
    intro p i S u R hw h1 h2
    have hp := R.1
    have hL := R.2.1.2.1
    have hS := R.2.1.1
    by_cases c : S 3 11 = 0
    · have g1 := h1 c
      obtain ⟨v, e, f1, R2⟩ := rdC (i := i) hw c R (by omega)
      have hn := nxt_le (y := y) hp
      have hs := stk_le (y := y) hp
      obtain ⟨N, q, v2, e2, f2, R3, w3, o3⟩ := ih (nxt L y p) (i + 1) (stp L y p S) v R2 (wf_stp hp hL hw) (fun x => by
        have t : tkn L y p ≠ 0 := fun z => stp_end z x
        have := nxt_gt hp t
        omega) (fun _ => by omega)
      refine ⟨N + 1, q, v2, ?_, f1.trans f2, R3, w3, o3⟩
      rw [lp, e]
      exact e2
    · have g2 := h2 c
      have q11 := R.2.2.2.2.2.1
      have w1 := hw.1
      refine ⟨0, p, u, ?_, Fr.rfl, R, hw, c⟩
      have e : bX6_readText_6 3 (J (i : Nat)) u = some (.inr u) := by
        unfold bX6_readText_6
        by_cases d : (500 : Int) < (i : Nat)
        · simp (disch := first | (simp only [SH_sIi, SH_sLi]; assumption) | assumption | (simp only [nN_sI, nN_sL, nN_sR]; assumption) | omega) only [↓s_nm, ↓s_bnd2, ↓s_some, ↓s_suml, ↓s_sumr, ↓s_nz, ↓gi_q, ↓pi_q, ↓ck_q, ↓gi_gs, ↓gr_gs, ↓g_0_0, ↓g_0_1, ↓g_0_2, ↓g_0_3, ↓g_0_4, ↓g_0_5, ↓g_0_6, ↓g_0_7, ↓g_1_0, ↓g_3_0, ↓g_3_3, ↓g_4_0, ↓g_4_1, ↓g_7_0, ↓g_7_1, ↓g_10_0, ↓g_10_1, ↓g_10_2, ↓g_34_0, ↓g_34_1, ↓g_34_2, ↓g_34_3, ↓g_34_4, ↓g_34_5, ↓g_39_2, ↓g_39_3, ↓g_39_4, ↓g_39_5, ↓g_39_6, ↓g_39_7, ↓g_39_8, ↓g_39_9, ↓g_45_0, ↓g_45_1, ↓g_45_2, ↓g_45_4, ↓g_49_0, ↓g_49_1, ↓g_49_2, ↓g_49_3, ↓g_49_4, ↓g_49_5, ↓g_49_6, ↓al_2, ↓al_5, ↓al_6, ↓al_8, ↓al_9, ↓al_11, ↓al_12, ↓al_13, ↓al_35, ↓al_36, ↓al_37, ↓al_38, ↓al_40, ↓al_41, ↓al_42, ↓al_43, ↓al_44, ↓al_46, ↓al_47, ↓al_48, ↓al_50, ↓al_51, ↓al_52, ↓al_53, ↓al_54, ↓as_2, ↓as_5, ↓as_6, ↓as_8, ↓as_9, ↓as_12, ↓as_13, ↓as_35, ↓as_36, ↓as_37, ↓as_38, ↓as_40, ↓as_41, ↓as_42, ↓as_43, ↓as_44, ↓as_46, ↓as_47, ↓as_48, ↓as_50, ↓as_51, ↓as_52, ↓as_53, ↓as_54, ↓gi_0, ↓pi_0, ↓ck_0, ↓gi_1, ↓pi_1, ↓ck_1, ↓gi_3, ↓pi_3, ↓ck_3, ↓gi_4, ↓pi_4, ↓ck_4, ↓gi_7, ↓pi_7, ↓ck_7, ↓gi_10, ↓pi_10, ↓ck_10, ↓gi_34, ↓pi_34, ↓ck_34, ↓gi_39, ↓pi_39, ↓ck_39, ↓gi_45, ↓pi_45, ↓ck_45, ↓gi_49, ↓pi_49, ↓ck_49, j0, j1, j2, j3, j4, j5, j6, j7, j8, j9, j10, j11, j12, j13, j14, j15, j16, j17, j18, j19, j20, j21, j24, j25, j30, j31, j32, j36, j41, j48, j49, j57, j59, j60, j63, j64, j81, j97, j99, j100, j122, j255, j300, j400, j500, j999, j1000, j24000, j_add, j_sub, j_mul, j_neg, j_lt, j_le, j_eq, nI_sI, nR_sI, nN_sI, nI_sR, nR_sR, nN_sR, Int.toNat_natCast, true_and, and_true, false_and, and_false, if_true, if_false, reduceIte, Nat.reduceEqDiff, Option.some.injEq, Prod.mk.injEq, k_of, k_add, k_sub, k_mul, k_neg, lg_ltJ, lg_gtJ, lg_eqJ, b_0, b_J0, b_J1, b_retZ, k0, k1, k2, k3, k10, k19, k20, k30, k40, k999, ↓dayC_b, ↓gsrC_b, ↓tenC_b, ↓zooC_b, ↓isqC_b, Int.add_sub_cancel, not_true, not_false_eq_true, jn1, Bool.false_eq_true, Bool.true_eq_false, reduceCtorEq, d]
        · simp (disch := first | (simp only [SH_sIi, SH_sLi]; assumption) | assumption | (simp only [nN_sI, nN_sL, nN_sR]; assumption) | omega) only [↓s_nm, ↓s_bnd2, ↓s_some, ↓s_suml, ↓s_sumr, ↓s_nz, ↓gi_q, ↓pi_q, ↓ck_q, ↓gi_gs, ↓gr_gs, ↓g_0_0, ↓g_0_1, ↓g_0_2, ↓g_0_3, ↓g_0_4, ↓g_0_5, ↓g_0_6, ↓g_0_7, ↓g_1_0, ↓g_3_0, ↓g_3_3, ↓g_4_0, ↓g_4_1, ↓g_7_0, ↓g_7_1, ↓g_10_0, ↓g_10_1, ↓g_10_2, ↓g_34_0, ↓g_34_1, ↓g_34_2, ↓g_34_3, ↓g_34_4, ↓g_34_5, ↓g_39_2, ↓g_39_3, ↓g_39_4, ↓g_39_5, ↓g_39_6, ↓g_39_7, ↓g_39_8, ↓g_39_9, ↓g_45_0, ↓g_45_1, ↓g_45_2, ↓g_45_4, ↓g_49_0, ↓g_49_1, ↓g_49_2, ↓g_49_3, ↓g_49_4, ↓g_49_5, ↓g_49_6, ↓al_2, ↓al_5, ↓al_6, ↓al_8, ↓al_9, ↓al_11, ↓al_12, ↓al_13, ↓al_35, ↓al_36, ↓al_37, ↓al_38, ↓al_40, ↓al_41, ↓al_42, ↓al_43, ↓al_44, ↓al_46, ↓al_47, ↓al_48, ↓al_50, ↓al_51, ↓al_52, ↓al_53, ↓al_54, ↓as_2, ↓as_5, ↓as_6, ↓as_8, ↓as_9, ↓as_12, ↓as_13, ↓as_35, ↓as_36, ↓as_37, ↓as_38, ↓as_40, ↓as_41, ↓as_42, ↓as_43, ↓as_44, ↓as_46, ↓as_47, ↓as_48, ↓as_50, ↓as_51, ↓as_52, ↓as_53, ↓as_54, ↓gi_0, ↓pi_0, ↓ck_0, ↓gi_1, ↓pi_1, ↓ck_1, ↓gi_3, ↓pi_3, ↓ck_3, ↓gi_4, ↓pi_4, ↓ck_4, ↓gi_7, ↓pi_7, ↓ck_7, ↓gi_10, ↓pi_10, ↓ck_10, ↓gi_34, ↓pi_34, ↓ck_34, ↓gi_39, ↓pi_39, ↓ck_39, ↓gi_45, ↓pi_45, ↓ck_45, ↓gi_49, ↓pi_49, ↓ck_49, j0, j1, j2, j3, j4, j5, j6, j7, j8, j9, j10, j11, j12, j13, j14, j15, j16, j17, j18, j19, j20, j21, j24, j25, j30, j31, j32, j36, j41, j48, j49, j57, j59, j60, j63, j64, j81, j97, j99, j100, j122, j255, j300, j400, j500, j999, j1000, j24000, j_add, j_sub, j_mul, j_neg, j_lt, j_le, j_eq, nI_sI, nR_sI, nN_sI, nI_sR, nR_sR, nN_sR, Int.toNat_natCast, true_and, and_true, false_and, and_false, if_true, if_false, reduceIte, Nat.reduceEqDiff, Option.some.injEq, Prod.mk.injEq, k_of, k_add, k_sub, k_mul, k_neg, lg_ltJ, lg_gtJ, lg_eqJ, b_0, b_J0, b_J1, b_retZ, k0, k1, k2, k3, k10, k19, k20, k30, k40, k999, ↓dayC_b, ↓gsrC_b, ↓tenC_b, ↓zooC_b, ↓isqC_b, Int.add_sub_cancel, not_true, not_false_eq_true, jn1, Bool.false_eq_true, Bool.true_eq_false, reduceCtorEq, d, q11, c]
      rw [lp, e]
      rfl
theorem itA_one : ∀ (N M p : Nat) (S : Sp), itA L y N p S 3 11 ≠ 0 → itA L y M p S 3 11 ≠ 0 → itA L y N p S = itA L y M p S := by
  intro N
  induction N with
  | zero =>
    intro M p S h1 h2
    exact (itA_over (show S 3 11 ≠ 0 from h1) M p).symm
  | succ N ih =>
    intro M p S h1 h2
    cases M with
    | zero => exact itA_over (show S 3 11 ≠ 0 from h2) (N + 1) p
    | succ M => exact ih M (nxt L y p) (stp L y p S) h1 h2
end XLOOP
