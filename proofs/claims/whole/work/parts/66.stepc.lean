/-! rules: the class takes a token -/
def RelC (L : Nat) (y : Nat → Int) (p : Nat) (S : Sp) (u : Mem) : Prop := p ≤ L ∧ TpC L y u ∧ mI u 3 6 = J (p : Nat) ∧ mI u 3 1 = J (S 3 1) ∧ mI u 3 2 = J (S 3 2) ∧ mI u 3 11 = J (S 3 11) ∧ (S 3 1 = 0 → mI u 3 7 = J (S 3 7) ∧ mI u 3 8 = J (S 3 8) ∧ mI u 3 9 = J (S 3 9) ∧ (∃ tb : Nat, tb < 64 ∧ mI u 3 10 = J (tb : Nat) ∧ ∀ k, k < 6 → (S 62 k = 1 ↔ tb.testBit k = true)) ∧ (∀ k, k < 5 → mI u 4 (2 + k) = J (S 55 k)) ∧ ∀ k, k < 11 → mI u 5 k = J (S 56 k) ∧ mI u 6 k = J (S 57 k))
theorem bit_get : ∀ tb, tb < 64 → ∀ k, k < 6 → ((J (tb : Nat) >>> (J (k : Nat) &&& J 31)) &&& J 1) = J (if tb.testBit k = true then 1 else 0) := by decide +kernel
theorem bit_set : ∀ tb, tb < 64 → ∀ k, k < 6 → (J (tb : Nat) ||| (J 1 <<< (J (k : Nat) &&& J 31))) = J ((tb ||| 2 ^ k : Nat) : Int) := by decide +kernel
theorem bit_lt : ∀ tb, tb < 64 → ∀ k, k < 6 → (tb ||| 2 ^ k) < 64 ∧ ∀ j, j < 6 → ((tb ||| 2 ^ k).testBit j = true ↔ tb.testBit j = true ∨ j = k) := by decide +kernel
def P6q (a k : Nat) : Prop := a = 4 ∨ a = 5 ∨ a = 6 ∨ a = 3 ∧ k = 8
def P6c (a k : Nat) : Prop := a = 4 ∨ a = 5 ∨ a = 6 ∨ a = 3 ∧ 1 ≤ k
section STEPC
variable {L p i : Nat} {y : Nat → Int} {u u' w : Mem} {β : Type} {P : Nat → Nat → Prop} {b f s : Int} {S : Sp}
theorem sf_fr : Fr P6c u (sf u f s) := by
  unfold sf
  exact ((Fr.rfl.sI (by unfold P6c; omega)).sI (by unfold P6c; omega)).sI (by unfold P6c; omega)
theorem rel_ft (h : TkC L y p u) (hf : f ≠ 0) (fr : Fr P6q (sf u f s) w) : RelC L y (nxt L y p) (ft S f s) w := by
  have hn := nxt_le (y := y) h.1
  have f1 : Fr P6c u (sf u f s) := sf_fr
  refine ⟨hn.2.1, TpC_fr (TpC_fr h.2.1 f1 fun a k h => by unfold P6c at h; omega) fr fun a k h => by unfold P6q at h; omega, ?_, ?_, ?_, ?_, fun x => absurd x (by show ud (ud (ud S 3 1 f) 3 2 s) 3 11 1 3 1 ≠ 0; simp only [ud]; exact hf)⟩
  · rw [fr.2.2 3 6 (by unfold P6q; omega)]
    unfold sf
    rw [mI_sI, if_neg (by omega), mI_sI, if_neg (by omega), mI_sI, if_neg (by omega)]
    exact h.2.2.2.2
  · rw [fr.2.2 3 1 (by unfold P6q; omega)]
    unfold sf
    rw [mI_sI, if_neg (by omega), mI_sI, if_neg (by omega), mI_sI, if_pos ⟨rfl, rfl⟩]
    rfl
  · rw [fr.2.2 3 2 (by unfold P6q; omega)]
    unfold sf
    rw [mI_sI, if_neg (by omega), mI_sI, if_pos ⟨rfl, rfl⟩]
    rfl
  · rw [fr.2.2 3 11 (by unfold P6q; omega)]
    unfold sf
    rw [mI_sI, if_pos ⟨rfl, rfl⟩]
    rfl
/-- what the machine keeps -/
def Wf (L : Nat) (p : Nat) (S : Sp) : Prop := (S 3 11 = 0 ∨ S 3 11 = 1) ∧ (S 3 11 = 0 → S 3 1 = 0) ∧ (0 ≤ S 3 1 ∧ S 3 1 ≤ 3) ∧ (-1 ≤ S 3 2 ∧ S 3 2 ≤ 500) ∧ (-1 ≤ S 3 7 ∧ S 3 7 ≤ 5) ∧ (0 ≤ S 3 7 → 0 ≤ S 3 8 ∧ S 3 8 ≤ nar (S 3 7)) ∧ (0 ≤ S 3 9 ∧ S 3 9 ≤ p) ∧ (∀ k, S 62 k = 0 ∨ S 62 k = 1)
/-- a line begins -/
theorem slC (h : TkC L y p u) (hw : Wf L p S) (h11 : S 3 11 = 0) (h7 : S 3 7 = -1) (R : RelC L y (nxt L y p) S u) : ∃ v, fX6_startLine 3 u = some v ∧ Fr P6c u v ∧ RelC L y (nxt L y p) (stp L y p S) v := by
  have tr := tkn_rng L y p
  have kr := key_rng L y p
  have hs := stk_le (y := y) h.1
  have hL := h.2.1.2.1
  have hS := h.2.1.1
  have h4 := h.2.2.1
  have hk0 : S 3 1 = 0 := hw.2.1 h11
  obtain ⟨r1, r2, r3, r4, r5, r6, r7⟩ := R
  obtain ⟨q7, q8, q9, ⟨tb, t1, t2, t3⟩, q4, q5⟩ := r7 hk0
  unfold fX6_startLine stp
  rw [if_neg (fun x => x h11), if_pos h7]
  by_cases c0 : tkn L y p = 0
  · rw [if_pos c0]
    have f1 : Fr P6c u (sI u 3 11 (J 1)) := Fr.rfl.sI (by unfold P6c; omega)
    refine ⟨sI u 3 11 (J 1), ?_, f1, r1, TpC_fr r2 f1 fun a k h => by unfold P6c at h; omega, ?_, ?_, ?_, ?_, fun _ => ⟨?_, ?_, ?_, ⟨tb, t1, ?_, t3⟩, fun k hk => ?_, fun k hk => ⟨?_, ?_⟩⟩⟩
    · simp (disch := first | (simp only [SH_sIi, SH_sLi]; assumption) | assumption | (simp only [nN_sI, nN_sL, nN_sR]; assumption) | omega) only [↓s_nm, ↓s_bnd2, ↓s_some, ↓s_suml, ↓s_sumr, ↓s_nz, ↓gi_q, ↓pi_q, ↓ck_q, ↓gi_gs, ↓gr_gs, ↓g_0_0, ↓g_0_1, ↓g_0_2, ↓g_0_3, ↓g_0_4, ↓g_0_5, ↓g_0_6, ↓g_0_7, ↓g_1_0, ↓g_3_0, ↓g_3_3, ↓g_4_0, ↓g_4_1, ↓g_7_0, ↓g_7_1, ↓g_10_0, ↓g_10_1, ↓g_10_2, ↓g_34_0, ↓g_34_1, ↓g_34_2, ↓g_34_3, ↓g_34_4, ↓g_34_5, ↓g_39_2, ↓g_39_3, ↓g_39_4, ↓g_39_5, ↓g_39_6, ↓g_39_7, ↓g_39_8, ↓g_39_9, ↓g_45_0, ↓g_45_1, ↓g_45_2, ↓g_45_4, ↓g_49_0, ↓g_49_1, ↓g_49_2, ↓g_49_3, ↓g_49_4, ↓g_49_5, ↓g_49_6, ↓al_2, ↓al_5, ↓al_6, ↓al_8, ↓al_9, ↓al_11, ↓al_12, ↓al_13, ↓al_35, ↓al_36, ↓al_37, ↓al_38, ↓al_40, ↓al_41, ↓al_42, ↓al_43, ↓al_44, ↓al_46, ↓al_47, ↓al_48, ↓al_50, ↓al_51, ↓al_52, ↓al_53, ↓al_54, ↓as_2, ↓as_5, ↓as_6, ↓as_8, ↓as_9, ↓as_12, ↓as_13, ↓as_35, ↓as_36, ↓as_37, ↓as_38, ↓as_40, ↓as_41, ↓as_42, ↓as_43, ↓as_44, ↓as_46, ↓as_47, ↓as_48, ↓as_50, ↓as_51, ↓as_52, ↓as_53, ↓as_54, ↓gi_0, ↓pi_0, ↓ck_0, ↓gi_1, ↓pi_1, ↓ck_1, ↓gi_3, ↓pi_3, ↓ck_3, ↓gi_4, ↓pi_4, ↓ck_4, ↓gi_7, ↓pi_7, ↓ck_7, ↓gi_10, ↓pi_10, ↓ck_10, ↓gi_34, ↓pi_34, ↓ck_34, ↓gi_39, ↓pi_39, ↓ck_39, ↓gi_45, ↓pi_45, ↓ck_45, ↓gi_49, ↓pi_49, ↓ck_49, j0, j1, j2, j3, j4, j5, j6, j7, j8, j9, j10, j11, j12, j13, j14, j15, j16, j17, j18, j19, j20, j21, j24, j25, j30, j31, j32, j36, j41, j48, j49, j57, j59, j60, j63, j64, j81, j97, j99, j100, j122, j255, j300, j400, j500, j999, j1000, j24000, j_add, j_sub, j_mul, j_neg, j_lt, j_le, j_eq, nI_sI, nR_sI, nN_sI, nI_sR, nR_sR, nN_sR, Int.toNat_natCast, true_and, and_true, false_and, and_false, if_true, if_false, reduceIte, Nat.reduceEqDiff, Option.some.injEq, Prod.mk.injEq, k_of, k_add, k_sub, k_mul, k_neg, lg_ltJ, lg_gtJ, lg_eqJ, b_0, b_J0, b_J1, b_retZ, k0, k1, k2, k3, k10, k19, k20, k30, k40, k999, ↓dayC_b, ↓gsrC_b, ↓tenC_b, ↓zooC_b, ↓isqC_b, Int.add_sub_cancel, not_true, not_false_eq_true, jn1, Bool.false_eq_true, Bool.true_eq_false, reduceCtorEq, h4, eq_true c0]
    · rw [mI_sI, if_neg (by omega)]; exact r3
    · rw [mI_sI, if_neg (by omega)]; exact r4
    · rw [mI_sI, if_neg (by omega)]; exact r5
    · rw [mI_sI, if_pos ⟨rfl, rfl⟩]; rfl
    · rw [mI_sI, if_neg (by omega)]; exact q7
    · rw [mI_sI, if_neg (by omega)]; exact q8
    · rw [mI_sI, if_neg (by omega)]; exact q9
    · rw [mI_sI, if_neg (by omega)]; exact t2
    · rw [mI_sI, if_neg (by omega)]; exact q4 k hk
    · rw [mI_sI, if_neg (by omega)]; exact (q5 k hk).1
    · rw [mI_sI, if_neg (by omega)]; exact (q5 k hk).2
  · rw [if_neg c0]
    by_cases c1 : key L y p = -1
    · rw [if_pos c1]
      refine ⟨sf u 1 (stk L y p), ?_, sf_fr, rel_ft h (by omega) Fr.rfl⟩
      simp (disch := first | (simp only [SH_sIi, SH_sLi]; assumption) | assumption | (simp only [nN_sI, nN_sL, nN_sR]; assumption) | omega) only [↓s_nm, ↓s_bnd2, ↓s_some, ↓s_suml, ↓s_sumr, ↓s_nz, ↓gi_q, ↓pi_q, ↓ck_q, ↓gi_gs, ↓gr_gs, ↓g_0_0, ↓g_0_1, ↓g_0_2, ↓g_0_3, ↓g_0_4, ↓g_0_5, ↓g_0_6, ↓g_0_7, ↓g_1_0, ↓g_3_0, ↓g_3_3, ↓g_4_0, ↓g_4_1, ↓g_7_0, ↓g_7_1, ↓g_10_0, ↓g_10_1, ↓g_10_2, ↓g_34_0, ↓g_34_1, ↓g_34_2, ↓g_34_3, ↓g_34_4, ↓g_34_5, ↓g_39_2, ↓g_39_3, ↓g_39_4, ↓g_39_5, ↓g_39_6, ↓g_39_7, ↓g_39_8, ↓g_39_9, ↓g_45_0, ↓g_45_1, ↓g_45_2, ↓g_45_4, ↓g_49_0, ↓g_49_1, ↓g_49_2, ↓g_49_3, ↓g_49_4, ↓g_49_5, ↓g_49_6, ↓al_2, ↓al_5, ↓al_6, ↓al_8, ↓al_9, ↓al_11, ↓al_12, ↓al_13, ↓al_35, ↓al_36, ↓al_37, ↓al_38, ↓al_40, ↓al_41, ↓al_42, ↓al_43, ↓al_44, ↓al_46, ↓al_47, ↓al_48, ↓al_50, ↓al_51, ↓al_52, ↓al_53, ↓al_54, ↓as_2, ↓as_5, ↓as_6, ↓as_8, ↓as_9, ↓as_12, ↓as_13, ↓as_35, ↓as_36, ↓as_37, ↓as_38, ↓as_40, ↓as_41, ↓as_42, ↓as_43, ↓as_44, ↓as_46, ↓as_47, ↓as_48, ↓as_50, ↓as_51, ↓as_52, ↓as_53, ↓as_54, ↓gi_0, ↓pi_0, ↓ck_0, ↓gi_1, ↓pi_1, ↓ck_1, ↓gi_3, ↓pi_3, ↓ck_3, ↓gi_4, ↓pi_4, ↓ck_4, ↓gi_7, ↓pi_7, ↓ck_7, ↓gi_10, ↓pi_10, ↓ck_10, ↓gi_34, ↓pi_34, ↓ck_34, ↓gi_39, ↓pi_39, ↓ck_39, ↓gi_45, ↓pi_45, ↓ck_45, ↓gi_49, ↓pi_49, ↓ck_49, j0, j1, j2, j3, j4, j5, j6, j7, j8, j9, j10, j11, j12, j13, j14, j15, j16, j17, j18, j19, j20, j21, j24, j25, j30, j31, j32, j36, j41, j48, j49, j57, j59, j60, j63, j64, j81, j97, j99, j100, j122, j255, j300, j400, j500, j999, j1000, j24000, j_add, j_sub, j_mul, j_neg, j_lt, j_le, j_eq, nI_sI, nR_sI, nN_sI, nI_sR, nR_sR, nN_sR, Int.toNat_natCast, true_and, and_true, false_and, and_false, if_true, if_false, reduceIte, Nat.reduceEqDiff, Option.some.injEq, Prod.mk.injEq, k_of, k_add, k_sub, k_mul, k_neg, lg_ltJ, lg_gtJ, lg_eqJ, b_0, b_J0, b_J1, b_retZ, k0, k1, k2, k3, k10, k19, k20, k30, k40, k999, ↓dayC_b, ↓gsrC_b, ↓tenC_b, ↓zooC_b, ↓isqC_b, Int.add_sub_cancel, not_true, not_false_eq_true, jn1, Bool.false_eq_true, Bool.true_eq_false, reduceCtorEq, h4, c0, ↓kyC h, eq_true c1]
      rw [sfC h (by omega) (by omega)]; rfl
    · rw [if_neg c1]
      obtain ⟨k, hk, ek⟩ : ∃ k : Nat, k < 6 ∧ key L y p = (k : Nat) := ⟨(key L y p).toNat, by omega, by omega⟩
      rw [ek] at c1 ⊢
      have e1 := bit_get tb t1 k hk
      have e2 := bit_set tb t1 k hk
      have e3 := bit_lt tb t1 k hk
      have e4 := t3 k hk
      by_cases c2 : tb.testBit k = true
      · rw [if_pos (show S 62 ((k : Nat) : Int).toNat = 1 from e4.mpr c2)]
        refine ⟨sf u 3 (stk L y p), ?_, sf_fr, rel_ft h (by omega) Fr.rfl⟩
        simp (disch := first | (simp only [SH_sIi, SH_sLi]; assumption) | assumption | (simp only [nN_sI, nN_sL, nN_sR]; assumption) | omega) only [↓s_nm, ↓s_bnd2, ↓s_some, ↓s_suml, ↓s_sumr, ↓s_nz, ↓gi_q, ↓pi_q, ↓ck_q, ↓gi_gs, ↓gr_gs, ↓g_0_0, ↓g_0_1, ↓g_0_2, ↓g_0_3, ↓g_0_4, ↓g_0_5, ↓g_0_6, ↓g_0_7, ↓g_1_0, ↓g_3_0, ↓g_3_3, ↓g_4_0, ↓g_4_1, ↓g_7_0, ↓g_7_1, ↓g_10_0, ↓g_10_1, ↓g_10_2, ↓g_34_0, ↓g_34_1, ↓g_34_2, ↓g_34_3, ↓g_34_4, ↓g_34_5, ↓g_39_2, ↓g_39_3, ↓g_39_4, ↓g_39_5, ↓g_39_6, ↓g_39_7, ↓g_39_8, ↓g_39_9, ↓g_45_0, ↓g_45_1, ↓g_45_2, ↓g_45_4, ↓g_49_0, ↓g_49_1, ↓g_49_2, ↓g_49_3, ↓g_49_4, ↓g_49_5, ↓g_49_6, ↓al_2, ↓al_5, ↓al_6, ↓al_8, ↓al_9, ↓al_11, ↓al_12, ↓al_13, ↓al_35, ↓al_36, ↓al_37, ↓al_38, ↓al_40, ↓al_41, ↓al_42, ↓al_43, ↓al_44, ↓al_46, ↓al_47, ↓al_48, ↓al_50, ↓al_51, ↓al_52, ↓al_53, ↓al_54, ↓as_2, ↓as_5, ↓as_6, ↓as_8, ↓as_9, ↓as_12, ↓as_13, ↓as_35, ↓as_36, ↓as_37, ↓as_38, ↓as_40, ↓as_41, ↓as_42, ↓as_43, ↓as_44, ↓as_46, ↓as_47, ↓as_48, ↓as_50, ↓as_51, ↓as_52, ↓as_53, ↓as_54, ↓gi_0, ↓pi_0, ↓ck_0, ↓gi_1, ↓pi_1, ↓ck_1, ↓gi_3, ↓pi_3, ↓ck_3, ↓gi_4, ↓pi_4, ↓ck_4, ↓gi_7, ↓pi_7, ↓ck_7, ↓gi_10, ↓pi_10, ↓ck_10, ↓gi_34, ↓pi_34, ↓ck_34, ↓gi_39, ↓pi_39, ↓ck_39, ↓gi_45, ↓pi_45, ↓ck_45, ↓gi_49, ↓pi_49, ↓ck_49, j0, j1, j2, j3, j4, j5, j6, j7, j8, j9, j10, j11, j12, j13, j14, j15, j16, j17, j18, j19, j20, j21, j24, j25, j30, j31, j32, j36, j41, j48, j49, j57, j59, j60, j63, j64, j81, j97, j99, j100, j122, j255, j300, j400, j500, j999, j1000, j24000, j_add, j_sub, j_mul, j_neg, j_lt, j_le, j_eq, nI_sI, nR_sI, nN_sI, nI_sR, nR_sR, nN_sR, Int.toNat_natCast, true_and, and_true, false_and, and_false, if_true, if_false, reduceIte, Nat.reduceEqDiff, Option.some.injEq, Prod.mk.injEq, k_of, k_add, k_sub, k_mul, k_neg, lg_ltJ, lg_gtJ, lg_eqJ, b_0, b_J0, b_J1, b_retZ, k0, k1, k2, k3, k10, k19, k20, k30, k40, k999, ↓dayC_b, ↓gsrC_b, ↓tenC_b, ↓zooC_b, ↓isqC_b, Int.add_sub_cancel, not_true, not_false_eq_true, jn1, Bool.false_eq_true, Bool.true_eq_false, reduceCtorEq, h4, c0, ↓kyC h, ek, c1, t2, e1, c2]
        rw [sfC h (by omega) (by omega)]; rfl
      · rw [if_neg (show ¬ (S 62 ((k : Nat) : Int).toNat = 1) from fun x => c2 (e4.mp x))]
        have f1 : Fr P6c u (sI (sI (sI u 3 10 (J ((tb ||| 2 ^ k : Nat) : Int))) 3 7 (J (k : Nat))) 3 8 (J 0)) := ((Fr.rfl.sI (by unfold P6c; omega)).sI (by unfold P6c; omega)).sI (by unfold P6c; omega)
        refine ⟨_, ?_, f1, ?_⟩
        · simp (disch := first | (simp only [SH_sIi, SH_sLi]; assumption) | assumption | (simp only [nN_sI, nN_sL, nN_sR]; assumption) | omega) only [↓s_nm, ↓s_bnd2, ↓s_some, ↓s_suml, ↓s_sumr, ↓s_nz, ↓gi_q, ↓pi_q, ↓ck_q, ↓gi_gs, ↓gr_gs, ↓g_0_0, ↓g_0_1, ↓g_0_2, ↓g_0_3, ↓g_0_4, ↓g_0_5, ↓g_0_6, ↓g_0_7, ↓g_1_0, ↓g_3_0, ↓g_3_3, ↓g_4_0, ↓g_4_1, ↓g_7_0, ↓g_7_1, ↓g_10_0, ↓g_10_1, ↓g_10_2, ↓g_34_0, ↓g_34_1, ↓g_34_2, ↓g_34_3, ↓g_34_4, ↓g_34_5, ↓g_39_2, ↓g_39_3, ↓g_39_4, ↓g_39_5, ↓g_39_6, ↓g_39_7, ↓g_39_8, ↓g_39_9, ↓g_45_0, ↓g_45_1, ↓g_45_2, ↓g_45_4, ↓g_49_0, ↓g_49_1, ↓g_49_2, ↓g_49_3, ↓g_49_4, ↓g_49_5, ↓g_49_6, ↓al_2, ↓al_5, ↓al_6, ↓al_8, ↓al_9, ↓al_11, ↓al_12, ↓al_13, ↓al_35, ↓al_36, ↓al_37, ↓al_38, ↓al_40, ↓al_41, ↓al_42, ↓al_43, ↓al_44, ↓al_46, ↓al_47, ↓al_48, ↓al_50, ↓al_51, ↓al_52, ↓al_53, ↓al_54, ↓as_2, ↓as_5, ↓as_6, ↓as_8, ↓as_9, ↓as_12, ↓as_13, ↓as_35, ↓as_36, ↓as_37, ↓as_38, ↓as_40, ↓as_41, ↓as_42, ↓as_43, ↓as_44, ↓as_46, ↓as_47, ↓as_48, ↓as_50, ↓as_51, ↓as_52, ↓as_53, ↓as_54, ↓gi_0, ↓pi_0, ↓ck_0, ↓gi_1, ↓pi_1, ↓ck_1, ↓gi_3, ↓pi_3, ↓ck_3, ↓gi_4, ↓pi_4, ↓ck_4, ↓gi_7, ↓pi_7, ↓ck_7, ↓gi_10, ↓pi_10, ↓ck_10, ↓gi_34, ↓pi_34, ↓ck_34, ↓gi_39, ↓pi_39, ↓ck_39, ↓gi_45, ↓pi_45, ↓ck_45, ↓gi_49, ↓pi_49, ↓ck_49, j0, j1, j2, j3, j4, j5, j6, j7, j8, j9, j10, j11, j12, j13, j14, j15, j16, j17, j18, j19, j20, j21, j24, j25, j30, j31, j32, j36, j41, j48, j49, j57, j59, j60, j63, j64, j81, j97, j99, j100, j122, j255, j300, j400, j500, j999, j1000, j24000, j_add, j_sub, j_mul, j_neg, j_lt, j_le, j_eq, nI_sI, nR_sI, nN_sI, nI_sR, nR_sR, nN_sR, Int.toNat_natCast, true_and, and_true, false_and, and_false, if_true, if_false, reduceIte, Nat.reduceEqDiff, Option.some.injEq, Prod.mk.injEq, k_of, k_add, k_sub, k_mul, k_neg, lg_ltJ, lg_gtJ, lg_eqJ, b_0, b_J0, b_J1, b_retZ, k0, k1, k2, k3, k10, k19, k20, k30, k40, k999, ↓dayC_b, ↓gsrC_b, ↓tenC_b, ↓zooC_b, ↓isqC_b, Int.add_sub_cancel, not_true, not_false_eq_true, jn1, Bool.false_eq_true, Bool.true_eq_false, reduceCtorEq, h4, c0, ↓kyC h, ek, c1, t2, e1, e2, c2, show ¬ ((0 : Int) = 1) by omega]
        · refine ⟨r1, TpC_fr r2 f1 fun a k h => by unfold P6c at h; omega, ?_, ?_, ?_, ?_, fun _ => ⟨?_, ?_, ?_, ⟨_, e3.1, ?_, fun j hj => ?_⟩, fun k hk => ?_, fun k hk => ⟨?_, ?_⟩⟩⟩
          · rw [mI_sI, if_neg (by omega), mI_sI, if_neg (by omega), mI_sI, if_neg (by omega)]; exact r3
          · rw [mI_sI, if_neg (by omega), mI_sI, if_neg (by omega), mI_sI, if_neg (by omega)]; exact r4
          · rw [mI_sI, if_neg (by omega), mI_sI, if_neg (by omega), mI_sI, if_neg (by omega)]; exact r5
          · rw [mI_sI, if_neg (by omega), mI_sI, if_neg (by omega), mI_sI, if_neg (by omega)]; exact r6
          · rw [mI_sI, if_neg (by omega), mI_sI, if_pos ⟨rfl, rfl⟩]; rfl
          · rw [mI_sI, if_pos ⟨rfl, rfl⟩]; rfl
          · rw [mI_sI, if_neg (by omega), mI_sI, if_neg (by omega), mI_sI, if_neg (by omega)]; exact q9
          · rw [mI_sI, if_neg (by omega), mI_sI, if_neg (by omega), mI_sI, if_pos ⟨rfl, rfl⟩]
          · rw [e3.2 j hj, ← t3 j hj]
            show (if 62 = 3 ∧ j = 8 then (0 : Int) else if 62 = 3 ∧ j = 7 then ((k : Nat) : Int) else if 62 = 62 ∧ j = ((k : Nat) : Int).toNat then 1 else S 62 j) = 1 ↔ _
            rw [if_neg (by omega), if_neg (by omega)]
            by_cases hj2 : j = k
            · rw [if_pos (by omega)]; exact ⟨fun _ => Or.inr hj2, fun _ => rfl⟩
            · rw [if_neg (by omega)]; exact ⟨Or.inl, fun x => x.elim id fun x => absurd x hj2⟩
          · rw [mI_sI, if_neg (by omega), mI_sI, if_neg (by omega), mI_sI, if_neg (by omega)]; exact q4 k hk
          · rw [mI_sI, if_neg (by omega), mI_sI, if_neg (by omega), mI_sI, if_neg (by omega)]; exact (q5 k hk).1
          · rw [mI_sI, if_neg (by omega), mI_sI, if_neg (by omega), mI_sI, if_neg (by omega)]; exact (q5 k hk).2
end STEPC
