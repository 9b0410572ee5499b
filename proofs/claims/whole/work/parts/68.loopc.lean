/-! rules: the class's step and loop -/
section LOOPC
variable {L p i : Nat} {y : Nat → Int} {u u' w : Mem} {β : Type} {P : Nat → Nat → Prop} {b f s lo hi k : Int} {S : Sp}
theorem tbC (h1 : 0 ≤ k) (h2 : k ≤ 5) {f : Int32 → Option β} : (fX6_tokensBehind (J k) u).bind f = f (J (nar k)) := by
  have : k = 0 ∨ k = 1 ∨ k = 2 ∨ k = 3 ∨ k = 4 ∨ k = 5 := by omega
  rcases this with rfl | rfl | rfl | rfl | rfl | rfl
  · rfl
  · rfl
  · rfl
  · rfl
  · rfl
  · rfl
/-- a line ends -/
theorem elC (h : TkC L y p u) (hw : Wf L p S) (hp : p ≤ L) (h11 : S 3 11 = 0) (h7 : 0 ≤ S 3 7) (h8 : ¬ (S 3 8 < nar (S 3 7))) (R : RelC L y (nxt L y p) S u) : ∃ v, fX6_takeToken 3 u = some v ∧ Fr P6c u v ∧ RelC L y (nxt L y p) (stp L y p S) v := by
  have hS := h.2.1.1
  have hL := h.2.1.2.1
  have h4 := h.2.2.1
  have tr := tkn_rng L y p
  have hk0 : S 3 1 = 0 := hw.2.1 h11
  have hw7 := hw.2.2.2.2.1
  have hw8 := hw.2.2.2.2.2.1
  have hw9 := hw.2.2.2.2.2.2.1
  have hna : nar (S 3 7) ≤ 11 := by unfold nar; split <;> (try split) <;> omega
  obtain ⟨r1, r2, r3, r4, r5, r6, r7⟩ := R
  obtain ⟨q7, q8, q9, ⟨tb, t1, t2, t3⟩, q4, q5⟩ := r7 hk0
  clear r7
  have hn0 : 0 ≤ nar (S 3 7) := by unfold nar; split <;> (try split) <;> omega
  have e8 := (hw8 h7).2
  have e80 := (hw8 h7).1
  unfold fX6_takeToken stp
  rw [if_neg (fun x => x h11), if_neg (show ¬ (S 3 7 = -1) by omega), if_neg h8]
  by_cases c : tkn L y p = 4
  · rw [if_pos c]
    have f1 : Fr P6c u (sI (sI u 3 9 (J (S 3 9 + 1))) 3 7 (J (-1))) := (Fr.rfl.sI (by unfold P6c; omega)).sI (by unfold P6c; omega)
    refine ⟨_, ?_, f1, r1, TpC_fr r2 f1 fun a k h => by unfold P6c at h; omega, ?_, ?_, ?_, ?_, fun _ => ⟨?_, ?_, ?_, ⟨tb, t1, ?_, t3⟩, fun k hk => ?_, fun k hk => ⟨?_, ?_⟩⟩⟩
    · simp (disch := first | (simp only [SH_sIi, SH_sLi]; assumption) | assumption | (simp only [nN_sI, nN_sL, nN_sR]; assumption) | omega) only [↓s_nm, ↓s_bnd2, ↓s_some, ↓s_suml, ↓s_sumr, ↓s_nz, ↓gi_q, ↓pi_q, ↓ck_q, ↓gi_gs, ↓gr_gs, ↓g_0_0, ↓g_0_1, ↓g_0_2, ↓g_0_3, ↓g_0_4, ↓g_0_5, ↓g_0_6, ↓g_0_7, ↓g_1_0, ↓g_3_0, ↓g_3_3, ↓g_4_0, ↓g_4_1, ↓g_7_0, ↓g_7_1, ↓g_10_0, ↓g_10_1, ↓g_10_2, ↓g_34_0, ↓g_34_1, ↓g_34_2, ↓g_34_3, ↓g_34_4, ↓g_34_5, ↓g_39_2, ↓g_39_3, ↓g_39_4, ↓g_39_5, ↓g_39_6, ↓g_39_7, ↓g_39_8, ↓g_39_9, ↓g_45_0, ↓g_45_1, ↓g_45_2, ↓g_45_4, ↓g_49_0, ↓g_49_1, ↓g_49_2, ↓g_49_3, ↓g_49_4, ↓g_49_5, ↓g_49_6, ↓al_2, ↓al_5, ↓al_6, ↓al_8, ↓al_9, ↓al_11, ↓al_12, ↓al_13, ↓al_35, ↓al_36, ↓al_37, ↓al_38, ↓al_40, ↓al_41, ↓al_42, ↓al_43, ↓al_44, ↓al_46, ↓al_47, ↓al_48, ↓al_50, ↓al_51, ↓al_52, ↓al_53, ↓al_54, ↓as_2, ↓as_5, ↓as_6, ↓as_8, ↓as_9, ↓as_12, ↓as_13, ↓as_35, ↓as_36, ↓as_37, ↓as_38, ↓as_40, ↓as_41, ↓as_42, ↓as_43, ↓as_44, ↓as_46, ↓as_47, ↓as_48, ↓as_50, ↓as_51, ↓as_52, ↓as_53, ↓as_54, ↓gi_0, ↓pi_0, ↓ck_0, ↓gi_1, ↓pi_1, ↓ck_1, ↓gi_3, ↓pi_3, ↓ck_3, ↓gi_4, ↓pi_4, ↓ck_4, ↓gi_7, ↓pi_7, ↓ck_7, ↓gi_10, ↓pi_10, ↓ck_10, ↓gi_34, ↓pi_34, ↓ck_34, ↓gi_39, ↓pi_39, ↓ck_39, ↓gi_45, ↓pi_45, ↓ck_45, ↓gi_49, ↓pi_49, ↓ck_49, j0, j1, j2, j3, j4, j5, j6, j7, j8, j9, j10, j11, j12, j13, j14, j15, j16, j17, j18, j19, j20, j21, j24, j25, j30, j31, j32, j36, j41, j48, j49, j57, j59, j60, j63, j64, j81, j97, j99, j100, j122, j255, j300, j400, j500, j999, j1000, j24000, j_add, j_sub, j_mul, j_neg, j_lt, j_le, j_eq, nI_sI, nR_sI, nN_sI, nI_sR, nR_sR, nN_sR, Int.toNat_natCast, true_and, and_true, false_and, and_false, if_true, if_false, reduceIte, Nat.reduceEqDiff, Option.some.injEq, Prod.mk.injEq, k_of, k_add, k_sub, k_mul, k_neg, lg_ltJ, lg_gtJ, lg_eqJ, b_0, b_J0, b_J1, b_retZ, k0, k1, k2, k3, k10, k19, k20, k30, k40, k999, ↓dayC_b, ↓gsrC_b, ↓tenC_b, ↓zooC_b, ↓isqC_b, Int.add_sub_cancel, not_true, not_false_eq_true, jn1, Bool.false_eq_true, Bool.true_eq_false, reduceCtorEq, q7, q8, q9, h4, ↓tbC, show ¬ (S 3 7 = -1) by omega, h8, eq_true c]
    · rw [mI_sI, if_neg (by omega), mI_sI, if_neg (by omega)]; exact r3
    · rw [mI_sI, if_neg (by omega), mI_sI, if_neg (by omega)]; exact r4
    · rw [mI_sI, if_neg (by omega), mI_sI, if_neg (by omega)]; exact r5
    · rw [mI_sI, if_neg (by omega), mI_sI, if_neg (by omega)]; exact r6
    · rw [mI_sI, if_pos ⟨rfl, rfl⟩]; rfl
    · rw [mI_sI, if_neg (by omega), mI_sI, if_neg (by omega)]; exact q8
    · rw [mI_sI, if_neg (by omega), mI_sI, if_pos ⟨rfl, rfl⟩]; rfl
    · rw [mI_sI, if_neg (by omega), mI_sI, if_neg (by omega)]; exact t2
    · rw [mI_sI, if_neg (by omega), mI_sI, if_neg (by omega)]; exact q4 k hk
    · rw [mI_sI, if_neg (by omega), mI_sI, if_neg (by omega)]; exact (q5 k hk).1
    · rw [mI_sI, if_neg (by omega), mI_sI, if_neg (by omega)]; exact (q5 k hk).2
  · rw [if_neg c]
    refine ⟨sf u 1 (stk L y p), ?_, sf_fr, rel_ft h (by omega) Fr.rfl⟩
    simp (disch := first | (simp only [SH_sIi, SH_sLi]; assumption) | assumption | (simp only [nN_sI, nN_sL, nN_sR]; assumption) | omega) only [↓s_nm, ↓s_bnd2, ↓s_some, ↓s_suml, ↓s_sumr, ↓s_nz, ↓gi_q, ↓pi_q, ↓ck_q, ↓gi_gs, ↓gr_gs, ↓g_0_0, ↓g_0_1, ↓g_0_2, ↓g_0_3, ↓g_0_4, ↓g_0_5, ↓g_0_6, ↓g_0_7, ↓g_1_0, ↓g_3_0, ↓g_3_3, ↓g_4_0, ↓g_4_1, ↓g_7_0, ↓g_7_1, ↓g_10_0, ↓g_10_1, ↓g_10_2, ↓g_34_0, ↓g_34_1, ↓g_34_2, ↓g_34_3, ↓g_34_4, ↓g_34_5, ↓g_39_2, ↓g_39_3, ↓g_39_4, ↓g_39_5, ↓g_39_6, ↓g_39_7, ↓g_39_8, ↓g_39_9, ↓g_45_0, ↓g_45_1, ↓g_45_2, ↓g_45_4, ↓g_49_0, ↓g_49_1, ↓g_49_2, ↓g_49_3, ↓g_49_4, ↓g_49_5, ↓g_49_6, ↓al_2, ↓al_5, ↓al_6, ↓al_8, ↓al_9, ↓al_11, ↓al_12, ↓al_13, ↓al_35, ↓al_36, ↓al_37, ↓al_38, ↓al_40, ↓al_41, ↓al_42, ↓al_43, ↓al_44, ↓al_46, ↓al_47, ↓al_48, ↓al_50, ↓al_51, ↓al_52, ↓al_53, ↓al_54, ↓as_2, ↓as_5, ↓as_6, ↓as_8, ↓as_9, ↓as_12, ↓as_13, ↓as_35, ↓as_36, ↓as_37, ↓as_38, ↓as_40, ↓as_41, ↓as_42, ↓as_43, ↓as_44, ↓as_46, ↓as_47, ↓as_48, ↓as_50, ↓as_51, ↓as_52, ↓as_53, ↓as_54, ↓gi_0, ↓pi_0, ↓ck_0, ↓gi_1, ↓pi_1, ↓ck_1, ↓gi_3, ↓pi_3, ↓ck_3, ↓gi_4, ↓pi_4, ↓ck_4, ↓gi_7, ↓pi_7, ↓ck_7, ↓gi_10, ↓pi_10, ↓ck_10, ↓gi_34, ↓pi_34, ↓ck_34, ↓gi_39, ↓pi_39, ↓ck_39, ↓gi_45, ↓pi_45, ↓ck_45, ↓gi_49, ↓pi_49, ↓ck_49, j0, j1, j2, j3, j4, j5, j6, j7, j8, j9, j10, j11, j12, j13, j14, j15, j16, j17, j18, j19, j20, j21, j24, j25, j30, j31, j32, j36, j41, j48, j49, j57, j59, j60, j63, j64, j81, j97, j99, j100, j122, j255, j300, j400, j500, j999, j1000, j24000, j_add, j_sub, j_mul, j_neg, j_lt, j_le, j_eq, nI_sI, nR_sI, nN_sI, nI_sR, nR_sR, nN_sR, Int.toNat_natCast, true_and, and_true, false_and, and_false, if_true, if_false, reduceIte, Nat.reduceEqDiff, Option.some.injEq, Prod.mk.injEq, k_of, k_add, k_sub, k_mul, k_neg, lg_ltJ, lg_gtJ, lg_eqJ, b_0, b_J0, b_J1, b_retZ, k0, k1, k2, k3, k10, k19, k20, k30, k40, k999, ↓dayC_b, ↓gsrC_b, ↓tenC_b, ↓zooC_b, ↓isqC_b, Int.add_sub_cancel, not_true, not_false_eq_true, jn1, Bool.false_eq_true, Bool.true_eq_false, reduceCtorEq, q7, q8, q9, h4, ↓tbC, show ¬ (S 3 7 = -1) by omega, h8, c]
    rw [sfC h (by omega) (by omega)]; rfl
theorem ttC (h : TkC L y p u) (hw : Wf L p S) (h11 : S 3 11 = 0) (R : RelC L y (nxt L y p) S u) : ∃ v, fX6_takeToken 3 u = some v ∧ Fr P6c u v ∧ RelC L y (nxt L y p) (stp L y p S) v := by
  have hS := h.2.1.1
  have hk0 : S 3 1 = 0 := hw.2.1 h11
  have hw7 := hw.2.2.2.2.1
  by_cases h7 : S 3 7 = -1
  · obtain ⟨v, e, f1, g1⟩ := slC h hw h11 h7 R
    have q7 := (R.2.2.2.2.2.2 hk0).1
    refine ⟨v, ?_, f1, g1⟩
    unfold fX6_takeToken
    simp (disch := first | (simp only [SH_sIi, SH_sLi]; assumption) | assumption | (simp only [nN_sI, nN_sL, nN_sR]; assumption) | omega) only [↓s_nm, ↓s_bnd2, ↓s_some, ↓s_suml, ↓s_sumr, ↓s_nz, ↓gi_q, ↓pi_q, ↓ck_q, ↓gi_gs, ↓gr_gs, ↓g_0_0, ↓g_0_1, ↓g_0_2, ↓g_0_3, ↓g_0_4, ↓g_0_5, ↓g_0_6, ↓g_0_7, ↓g_1_0, ↓g_3_0, ↓g_3_3, ↓g_4_0, ↓g_4_1, ↓g_7_0, ↓g_7_1, ↓g_10_0, ↓g_10_1, ↓g_10_2, ↓g_34_0, ↓g_34_1, ↓g_34_2, ↓g_34_3, ↓g_34_4, ↓g_34_5, ↓g_39_2, ↓g_39_3, ↓g_39_4, ↓g_39_5, ↓g_39_6, ↓g_39_7, ↓g_39_8, ↓g_39_9, ↓g_45_0, ↓g_45_1, ↓g_45_2, ↓g_45_4, ↓g_49_0, ↓g_49_1, ↓g_49_2, ↓g_49_3, ↓g_49_4, ↓g_49_5, ↓g_49_6, ↓al_2, ↓al_5, ↓al_6, ↓al_8, ↓al_9, ↓al_11, ↓al_12, ↓al_13, ↓al_35, ↓al_36, ↓al_37, ↓al_38, ↓al_40, ↓al_41, ↓al_42, ↓al_43, ↓al_44, ↓al_46, ↓al_47, ↓al_48, ↓al_50, ↓al_51, ↓al_52, ↓al_53, ↓al_54, ↓as_2, ↓as_5, ↓as_6, ↓as_8, ↓as_9, ↓as_12, ↓as_13, ↓as_35, ↓as_36, ↓as_37, ↓as_38, ↓as_40, ↓as_41, ↓as_42, ↓as_43, ↓as_44, ↓as_46, ↓as_47, ↓as_48, ↓as_50, ↓as_51, ↓as_52, ↓as_53, ↓as_54, ↓gi_0, ↓pi_0, ↓ck_0, ↓gi_1, ↓pi_1, ↓ck_1, ↓gi_3, ↓pi_3, ↓ck_3, ↓gi_4, ↓pi_4, ↓ck_4, ↓gi_7, ↓pi_7, ↓ck_7, ↓gi_10, ↓pi_10, ↓ck_10, ↓gi_34, ↓pi_34, ↓ck_34, ↓gi_39, ↓pi_39, ↓ck_39, ↓gi_45, ↓pi_45, ↓ck_45, ↓gi_49, ↓pi_49, ↓ck_49, j0, j1, j2, j3, j4, j5, j6, j7, j8, j9, j10, j11, j12, j13, j14, j15, j16, j17, j18, j19, j20, j21, j24, j25, j30, j31, j32, j36, j41, j48, j49, j57, j59, j60, j63, j64, j81, j97, j99, j100, j122, j255, j300, j400, j500, j999, j1000, j24000, j_add, j_sub, j_mul, j_neg, j_lt, j_le, j_eq, nI_sI, nR_sI, nN_sI, nI_sR, nR_sR, nN_sR, Int.toNat_natCast, true_and, and_true, false_and, and_false, if_true, if_false, reduceIte, Nat.reduceEqDiff, Option.some.injEq, Prod.mk.injEq, k_of, k_add, k_sub, k_mul, k_neg, lg_ltJ, lg_gtJ, lg_eqJ, b_0, b_J0, b_J1, b_retZ, k0, k1, k2, k3, k10, k19, k20, k30, k40, k999, ↓dayC_b, ↓gsrC_b, ↓tenC_b, ↓zooC_b, ↓isqC_b, Int.add_sub_cancel, not_true, not_false_eq_true, jn1, Bool.false_eq_true, Bool.true_eq_false, reduceCtorEq, q7, h7]
    rw [e]; rfl
  · have hw8 := (hw.2.2.2.2.2.1 (by omega)).1
    by_cases h8 : S 3 8 < nar (S 3 7)
    · have : S 3 7 = 0 ∨ S 3 7 = 1 ∨ S 3 7 = 2 ∨ S 3 7 = 3 ∨ S 3 7 = 4 ∨ S 3 7 = 5 := by omega
      rcases this with e | e | e | e | e | e
      · rw [e] at h8
        have h8 : S 3 8 < 11 := h8
        exact taC_0 h hw h11 e h8 R
      · rw [e] at h8
        have h8 : S 3 8 < 11 := h8
        exact taC_1 h hw h11 e h8 R
      · rw [e] at h8
        have h8 : S 3 8 < 1 := h8
        exact taC_2 h hw h11 e (by omega) R
      · rw [e] at h8
        have h8 : S 3 8 < 1 := h8
        exact taC_3 h hw h11 e (by omega) R
      · rw [e] at h8
        have h8 : S 3 8 < 2 := h8
        by_cases c : S 3 8 = 0
        · exact taC_40 h hw h11 e c R
        · exact taC_41 h hw h11 e (by omega) R
      · rw [e] at h8
        have h8 : S 3 8 < 1 := h8
        exact taC_5 h hw h11 e (by omega) R
    · exact elC h hw h.1 h11 (by omega) h8 R
/-- a round of the class's loop -/
theorem rdC (hw : Wf L p S) (h11 : S 3 11 = 0) (R : RelC L y p S u) (hi : i ≤ 500) : ∃ v, bX6_readText_6 3 (J (i : Nat)) u = some (.inl (J ((i + 1 : Nat) : Int), v)) ∧ Fr P6c u v ∧ RelC L y (nxt L y p) (stp L y p S) v := by
  have hk0 : S 3 1 = 0 := hw.2.1 h11
  have hn := nxt_le (y := y) R.1
  obtain ⟨w, e1, f1, w4, w5, w6⟩ := rtC R.2.1 R.1 R.2.2.1
  have hS := R.2.1.1
  have hT : TpC L y w := TpC_fr R.2.1 f1 fun a k h => by unfold P3t at h; omega
  have hk : TkC L y p w := ⟨R.1, hT, w4, w5, w6⟩
  have fx : ∀ a k, ¬ (a = 3 ∧ (k = 4 ∨ k = 5 ∨ k = 6)) → mI w a k = mI u a k := fun a k h => f1.2.2 a k h
  have R2 : RelC L y (nxt L y p) S w := by
    obtain ⟨r1, r2, r3, r4, r5, r6, r7⟩ := R
    obtain ⟨q7, q8, q9, ⟨tb, t1, t2, t3⟩, q4, q5⟩ := r7 hk0
    clear r7
    exact ⟨hn.2.1, hT, w6, by rw [fx 3 1 (by omega)]; exact r4, by rw [fx 3 2 (by omega)]; exact r5, by rw [fx 3 11 (by omega)]; exact r6, fun _ => ⟨by rw [fx 3 7 (by omega)]; exact q7, by rw [fx 3 8 (by omega)]; exact q8, by rw [fx 3 9 (by omega)]; exact q9, ⟨tb, t1, by rw [fx 3 10 (by omega)]; exact t2, t3⟩, fun k hk => by rw [fx 4 _ (by omega)]; exact q4 k hk, fun k hk => ⟨by rw [fx 5 _ (by omega)]; exact (q5 k hk).1, by rw [fx 6 _ (by omega)]; exact (q5 k hk).2⟩⟩⟩
  obtain ⟨v, e2, f2, g2⟩ := ttC hk hw h11 R2
  have hS2 := hT.1
  have q11 := R.2.2.2.2.2.1
  refine ⟨v, ?_, (Fr.mono f1 fun a k h => by unfold P3t at h; unfold P6c; omega).trans f2, g2⟩
  unfold bX6_readText_6
  simp (disch := first | (simp only [SH_sIi, SH_sLi]; assumption) | assumption | (simp only [nN_sI, nN_sL, nN_sR]; assumption) | omega) only [↓s_nm, ↓s_bnd2, ↓s_some, ↓s_suml, ↓s_sumr, ↓s_nz, ↓gi_q, ↓pi_q, ↓ck_q, ↓gi_gs, ↓gr_gs, ↓g_0_0, ↓g_0_1, ↓g_0_2, ↓g_0_3, ↓g_0_4, ↓g_0_5, ↓g_0_6, ↓g_0_7, ↓g_1_0, ↓g_3_0, ↓g_3_3, ↓g_4_0, ↓g_4_1, ↓g_7_0, ↓g_7_1, ↓g_10_0, ↓g_10_1, ↓g_10_2, ↓g_34_0, ↓g_34_1, ↓g_34_2, ↓g_34_3, ↓g_34_4, ↓g_34_5, ↓g_39_2, ↓g_39_3, ↓g_39_4, ↓g_39_5, ↓g_39_6, ↓g_39_7, ↓g_39_8, ↓g_39_9, ↓g_45_0, ↓g_45_1, ↓g_45_2, ↓g_45_4, ↓g_49_0, ↓g_49_1, ↓g_49_2, ↓g_49_3, ↓g_49_4, ↓g_49_5, ↓g_49_6, ↓al_2, ↓al_5, ↓al_6, ↓al_8, ↓al_9, ↓al_11, ↓al_12, ↓al_13, ↓al_35, ↓al_36, ↓al_37, ↓al_38, ↓al_40, ↓al_41, ↓al_42, ↓al_43, ↓al_44, ↓al_46, ↓al_47, ↓al_48, ↓al_50, ↓al_51, ↓al_52, ↓al_53, ↓al_54, ↓as_2, ↓as_5, ↓as_6, ↓as_8, ↓as_9, ↓as_12, ↓as_13, ↓as_35, ↓as_36, ↓as_37, ↓as_38, ↓as_40, ↓as_41, ↓as_42, ↓as_43, ↓as_44, ↓as_46, ↓as_47, ↓as_48, ↓as_50, ↓as_51, ↓as_52, ↓as_53, ↓as_54, ↓gi_0, ↓pi_0, ↓ck_0, ↓gi_1, ↓pi_1, ↓ck_1, ↓gi_3, ↓pi_3, ↓ck_3, ↓gi_4, ↓pi_4, ↓ck_4, ↓gi_7, ↓pi_7, ↓ck_7, ↓gi_10, ↓pi_10, ↓ck_10, ↓gi_34, ↓pi_34, ↓ck_34, ↓gi_39, ↓pi_39, ↓ck_39, ↓gi_45, ↓pi_45, ↓ck_45, ↓gi_49, ↓pi_49, ↓ck_49, j0, j1, j2, j3, j4, j5, j6, j7, j8, j9, j10, j11, j12, j13, j14, j15, j16, j17, j18, j19, j20, j21, j24, j25, j30, j31, j32, j36, j41, j48, j49, j57, j59, j60, j63, j64, j81, j97, j99, j100, j122, j255, j300, j400, j500, j999, j1000, j24000, j_add, j_sub, j_mul, j_neg, j_lt, j_le, j_eq, nI_sI, nR_sI, nN_sI, nI_sR, nR_sR, nN_sR, Int.toNat_natCast, true_and, and_true, false_and, and_false, if_true, if_false, reduceIte, Nat.reduceEqDiff, Option.some.injEq, Prod.mk.injEq, k_of, k_add, k_sub, k_mul, k_neg, lg_ltJ, lg_gtJ, lg_eqJ, b_0, b_J0, b_J1, b_retZ, k0, k1, k2, k3, k10, k19, k20, k30, k40, k999, ↓dayC_b, ↓gsrC_b, ↓tenC_b, ↓zooC_b, ↓isqC_b, Int.add_sub_cancel, not_true, not_false_eq_true, jn1, Bool.false_eq_true, Bool.true_eq_false, reduceCtorEq, q11, h11, show ¬ ((500 : Int) < (i : Nat)) by omega]
  rw [e1, s_some]
  simp (disch := first | (simp only [SH_sIi, SH_sLi]; assumption) | assumption | (simp only [nN_sI, nN_sL, nN_sR]; assumption) | omega) only [↓s_nm, ↓s_bnd2, ↓s_some, ↓s_suml, ↓s_sumr, ↓s_nz, ↓gi_q, ↓pi_q, ↓ck_q, ↓gi_gs, ↓gr_gs, ↓g_0_0, ↓g_0_1, ↓g_0_2, ↓g_0_3, ↓g_0_4, ↓g_0_5, ↓g_0_6, ↓g_0_7, ↓g_1_0, ↓g_3_0, ↓g_3_3, ↓g_4_0, ↓g_4_1, ↓g_7_0, ↓g_7_1, ↓g_10_0, ↓g_10_1, ↓g_10_2, ↓g_34_0, ↓g_34_1, ↓g_34_2, ↓g_34_3, ↓g_34_4, ↓g_34_5, ↓g_39_2, ↓g_39_3, ↓g_39_4, ↓g_39_5, ↓g_39_6, ↓g_39_7, ↓g_39_8, ↓g_39_9, ↓g_45_0, ↓g_45_1, ↓g_45_2, ↓g_45_4, ↓g_49_0, ↓g_49_1, ↓g_49_2, ↓g_49_3, ↓g_49_4, ↓g_49_5, ↓g_49_6, ↓al_2, ↓al_5, ↓al_6, ↓al_8, ↓al_9, ↓al_11, ↓al_12, ↓al_13, ↓al_35, ↓al_36, ↓al_37, ↓al_38, ↓al_40, ↓al_41, ↓al_42, ↓al_43, ↓al_44, ↓al_46, ↓al_47, ↓al_48, ↓al_50, ↓al_51, ↓al_52, ↓al_53, ↓al_54, ↓as_2, ↓as_5, ↓as_6, ↓as_8, ↓as_9, ↓as_12, ↓as_13, ↓as_35, ↓as_36, ↓as_37, ↓as_38, ↓as_40, ↓as_41, ↓as_42, ↓as_43, ↓as_44, ↓as_46, ↓as_47, ↓as_48, ↓as_50, ↓as_51, ↓as_52, ↓as_53, ↓as_54, ↓gi_0, ↓pi_0, ↓ck_0, ↓gi_1, ↓pi_1, ↓ck_1, ↓gi_3, ↓pi_3, ↓ck_3, ↓gi_4, ↓pi_4, ↓ck_4, ↓gi_7, ↓pi_7, ↓ck_7, ↓gi_10, ↓pi_10, ↓ck_10, ↓gi_34, ↓pi_34, ↓ck_34, ↓gi_39, ↓pi_39, ↓ck_39, ↓gi_45, ↓pi_45, ↓ck_45, ↓gi_49, ↓pi_49, ↓ck_49, j0, j1, j2, j3, j4, j5, j6, j7, j8, j9, j10, j11, j12, j13, j14, j15, j16, j17, j18, j19, j20, j21, j24, j25, j30, j31, j32, j36, j41, j48, j49, j57, j59, j60, j63, j64, j81, j97, j99, j100, j122, j255, j300, j400, j500, j999, j1000, j24000, j_add, j_sub, j_mul, j_neg, j_lt, j_le, j_eq, nI_sI, nR_sI, nN_sI, nI_sR, nR_sR, nN_sR, Int.toNat_natCast, true_and, and_true, false_and, and_false, if_true, if_false, reduceIte, Nat.reduceEqDiff, Option.some.injEq, Prod.mk.injEq, k_of, k_add, k_sub, k_mul, k_neg, lg_ltJ, lg_gtJ, lg_eqJ, b_0, b_J0, b_J1, b_retZ, k0, k1, k2, k3, k10, k19, k20, k30, k40, k999, ↓dayC_b, ↓gsrC_b, ↓tenC_b, ↓zooC_b, ↓isqC_b, Int.add_sub_cancel, not_true, not_false_eq_true, jn1, Bool.false_eq_true, Bool.true_eq_false, reduceCtorEq]
  rw [e2, s_some]
end LOOPC
