/-! rules: the class takes an argument -/
section ARGC
variable {L p i : Nat} {y : Nat → Int} {u u' w : Mem} {β : Type} {P : Nat → Nat → Prop} {b f s lo hi : Int} {S : Sp}
theorem ud_at (S : Sp) (a k : Nat) (v : Int) (b j : Nat) : ud S a k v b j = if b = a ∧ j = k then v else S b j := rfl
theorem rel_put {q A B' a c : Nat} {v z : Int} (R : RelC L y q S u) (hk0 : S 3 1 = 0) (hh : (A = 55 ∧ B' < 5 ∧ a = 4 ∧ c = 2 + B') ∨ (A = 56 ∧ B' < 11 ∧ a = 5 ∧ c = B') ∨ (A = 57 ∧ B' < 11 ∧ a = 6 ∧ c = B')) : Fr P6c u (sI (sI u a c (J v)) 3 8 (J z)) ∧ RelC L y q (ud (ud S A B' v) 3 8 z) (sI (sI u a c (J v)) 3 8 (J z)) := by
  obtain ⟨r1, r2, r3, r4, r5, r6, r7⟩ := R
  obtain ⟨q7, q8, q9, ⟨tb, t1, t2, t3⟩, q4, q5⟩ := r7 hk0
  clear r7
  have f1 : Fr P6c u (sI (sI u a c (J v)) 3 8 (J z)) := (Fr.rfl.sI (by unfold P6c; omega)).sI (by unfold P6c; omega)
  refine ⟨f1, r1, TpC_fr r2 f1 fun a k h => by unfold P6c at h; omega, ?_, ?_, ?_, ?_, fun _ => ⟨?_, ?_, ?_, ⟨tb, t1, ?_, fun k hk => ?_⟩, fun k hk => ?_, fun k hk => ⟨?_, ?_⟩⟩⟩
  · rw [mI_sI, if_neg (by omega), mI_sI, if_neg (by omega)]; exact r3
  · rw [ud_at, if_neg (by omega), ud_at, if_neg (by omega), mI_sI, if_neg (by omega), mI_sI, if_neg (by omega)]; exact r4
  · rw [ud_at, if_neg (by omega), ud_at, if_neg (by omega), mI_sI, if_neg (by omega), mI_sI, if_neg (by omega)]; exact r5
  · rw [ud_at, if_neg (by omega), ud_at, if_neg (by omega), mI_sI, if_neg (by omega), mI_sI, if_neg (by omega)]; exact r6
  · rw [ud_at, if_neg (by omega), ud_at, if_neg (by omega), mI_sI, if_neg (by omega), mI_sI, if_neg (by omega)]; exact q7
  · rw [ud_at, if_pos ⟨rfl, rfl⟩, mI_sI, if_pos ⟨rfl, rfl⟩]
  · rw [ud_at, if_neg (by omega), ud_at, if_neg (by omega), mI_sI, if_neg (by omega), mI_sI, if_neg (by omega)]; exact q9
  · rw [mI_sI, if_neg (by omega), mI_sI, if_neg (by omega)]; exact t2
  · rw [ud_at, if_neg (by omega), ud_at, if_neg (by omega)]; exact t3 k hk
  · rw [ud_at, if_neg (by omega), ud_at, mI_sI, if_neg (by omega), mI_sI]
    by_cases e : 55 = A ∧ k = B'
    · rw [if_pos e, if_pos (by omega)]
    · rw [if_neg e, if_neg (by omega)]; exact q4 k hk
  · rw [ud_at, if_neg (by omega), ud_at, mI_sI, if_neg (by omega), mI_sI]
    by_cases e : 56 = A ∧ k = B'
    · rw [if_pos e, if_pos (by omega)]
    · rw [if_neg e, if_neg (by omega)]; exact (q5 k hk).1
  · rw [ud_at, if_neg (by omega), ud_at, mI_sI, if_neg (by omega), mI_sI]
    by_cases e : 57 = A ∧ k = B'
    · rw [if_pos e, if_pos (by omega)]
    · rw [if_neg e, if_neg (by omega)]; exact (q5 k hk).2
theorem tnC2 (h : TkC L y p u) (h1 : 0 ≤ lo) (h2 : lo ≤ 9) (h3 : 0 ≤ hi) (h4 : hi ≤ 5000) : ∃ x w, fX6_takeNumber 3 (J lo) (J hi) u = some (J x, w) ∧ 0 ≤ x ∧ x ≤ 9999 ∧ (((tkn L y p = 3 ∧ lo ≤ vl L y p ∧ vl L y p ≤ hi) ∧ x = vl L y p ∧ w = u) ∨ (¬ (tkn L y p = 3 ∧ lo ≤ vl L y p ∧ vl L y p ≤ hi) ∧ w = sf u (if tkn L y p = 3 then 2 else 1) (stk L y p))) := by
  refine ⟨_, _, tnC h h1 h2 h3 h4, ?_⟩
  by_cases c : tkn L y p = 3
  · have := vl_rng h.1 c
    simp only [if_pos c]
    by_cases d : lo ≤ vl L y p ∧ vl L y p ≤ hi
    · simp only [if_pos d]
      exact ⟨this.1, this.2, Or.inl ⟨⟨c, d⟩, trivial, trivial⟩⟩
    · simp only [if_neg d]
      exact ⟨this.1, this.2, Or.inr ⟨fun x => d x.2, trivial⟩⟩
  · simp only [if_neg c]
    exact ⟨h1, by omega, Or.inr ⟨fun x => c x.1, trivial⟩⟩
/-- a number into a list's place -/
theorem taC_0 (h : TkC L y p u) (hw : Wf L p S) (h11 : S 3 11 = 0) (h7 : S 3 7 = 0) (h8 : S 3 8 < 11) (R : RelC L y (nxt L y p) S u) : ∃ v, fX6_takeToken 3 u = some v ∧ Fr P6c u v ∧ RelC L y (nxt L y p) (stp L y p S) v := by
  have hS := h.2.1.1
  have hk0 : S 3 1 = 0 := hw.2.1 h11
  have hw8 := (hw.2.2.2.2.2.1 (by omega)).1
  have r7 := R.2.2.2.2.2.2 hk0
  have q7 := r7.1
  have q8 := r7.2.1
  obtain ⟨j, hj, ej⟩ : ∃ j : Nat, j < 11 ∧ S 3 8 = (j : Nat) := ⟨(S 3 8).toNat, by omega, by omega⟩
  obtain ⟨x, w, e1, x1, x2, e2⟩ := tnC2 (lo := 0) (hi := 1000) h (by omega) (by omega) (by omega) (by omega)
  have hst : stp L y p S = if tkn L y p = 3 ∧ 0 ≤ vl L y p ∧ vl L y p ≤ 1000 then ud (ud S 56 j (vl L y p)) 3 8 ((j : Nat) + 1) else ft S (if tkn L y p = 3 then 2 else 1) (stk L y p) := by
    unfold stp
    rw [if_neg (fun x => x h11), h7, ej, if_neg (by omega), if_pos (show ((j : Nat) : Int) < nar 0 by show ((j : Nat) : Int) < 11; omega)]
    have ea : af L y p 0 (j : Nat) = if tkn L y p = 3 then (if 0 ≤ vl L y p ∧ vl L y p ≤ 1000 then 0 else 2) else 1 := rfl
    rw [ea]
    by_cases c : tkn L y p = 3
    · by_cases d : 0 ≤ vl L y p ∧ vl L y p ≤ 1000
      · rw [if_pos c, if_pos d, if_pos rfl, if_pos (show tkn L y p = 3 ∧ 0 ≤ vl L y p ∧ vl L y p ≤ 1000 from ⟨c, d⟩)]
        rfl
      · rw [if_pos c, if_neg d, if_neg (show ¬ ((2 : Int) = 0) by omega), if_neg (show ¬ (tkn L y p = 3 ∧ 0 ≤ vl L y p ∧ vl L y p ≤ 1000) from fun x => d x.2), if_pos c]
    · rw [if_neg c, if_neg (show ¬ ((1 : Int) = 0) by omega), if_neg (show ¬ (tkn L y p = 3 ∧ 0 ≤ vl L y p ∧ vl L y p ≤ 1000) from fun x => c x.1), if_neg c]
  rw [hst]
  unfold fX6_takeToken fX6_takeArgument fX6_tokensBehind
  rcases e2 with ⟨c, rfl, rfl⟩ | ⟨c, rfl⟩
  · rw [if_pos c]
    obtain ⟨f1, g1⟩ := rel_put (A := 56) (B' := j) (a := 5) (c := j) (v := vl L y p) (z := (j : Nat) + 1) R hk0 (Or.inr (Or.inl ⟨rfl, hj, rfl, rfl⟩))
    refine ⟨_, ?_, f1, g1⟩
    simp (disch := first | (simp only [SH_sIi, SH_sLi]; assumption) | assumption | (simp only [nN_sI, nN_sL, nN_sR]; assumption) | omega) only [↓s_nm, ↓s_bnd2, ↓s_some, ↓s_suml, ↓s_sumr, ↓s_nz, ↓gi_q, ↓pi_q, ↓ck_q, ↓gi_gs, ↓gr_gs, ↓g_0_0, ↓g_0_1, ↓g_0_2, ↓g_0_3, ↓g_0_4, ↓g_0_5, ↓g_0_6, ↓g_0_7, ↓g_1_0, ↓g_3_0, ↓g_3_3, ↓g_4_0, ↓g_4_1, ↓g_7_0, ↓g_7_1, ↓g_10_0, ↓g_10_1, ↓g_10_2, ↓g_34_0, ↓g_34_1, ↓g_34_2, ↓g_34_3, ↓g_34_4, ↓g_34_5, ↓g_39_2, ↓g_39_3, ↓g_39_4, ↓g_39_5, ↓g_39_6, ↓g_39_7, ↓g_39_8, ↓g_39_9, ↓g_45_0, ↓g_45_1, ↓g_45_2, ↓g_45_4, ↓g_49_0, ↓g_49_1, ↓g_49_2, ↓g_49_3, ↓g_49_4, ↓g_49_5, ↓g_49_6, ↓al_2, ↓al_5, ↓al_6, ↓al_8, ↓al_9, ↓al_11, ↓al_12, ↓al_13, ↓al_35, ↓al_36, ↓al_37, ↓al_38, ↓al_40, ↓al_41, ↓al_42, ↓al_43, ↓al_44, ↓al_46, ↓al_47, ↓al_48, ↓al_50, ↓al_51, ↓al_52, ↓al_53, ↓al_54, ↓as_2, ↓as_5, ↓as_6, ↓as_8, ↓as_9, ↓as_12, ↓as_13, ↓as_35, ↓as_36, ↓as_37, ↓as_38, ↓as_40, ↓as_41, ↓as_42, ↓as_43, ↓as_44, ↓as_46, ↓as_47, ↓as_48, ↓as_50, ↓as_51, ↓as_52, ↓as_53, ↓as_54, ↓gi_0, ↓pi_0, ↓ck_0, ↓gi_1, ↓pi_1, ↓ck_1, ↓gi_3, ↓pi_3, ↓ck_3, ↓gi_4, ↓pi_4, ↓ck_4, ↓gi_7, ↓pi_7, ↓ck_7, ↓gi_10, ↓pi_10, ↓ck_10, ↓gi_34, ↓pi_34, ↓ck_34, ↓gi_39, ↓pi_39, ↓ck_39, ↓gi_45, ↓pi_45, ↓ck_45, ↓gi_49, ↓pi_49, ↓ck_49, j0, j1, j2, j3, j4, j5, j6, j7, j8, j9, j10, j11, j12, j13, j14, j15, j16, j17, j18, j19, j20, j21, j24, j25, j30, j31, j32, j36, j41, j48, j49, j57, j59, j60, j63, j64, j81, j97, j99, j100, j122, j255, j300, j400, j500, j999, j1000, j24000, j_add, j_sub, j_mul, j_neg, j_lt, j_le, j_eq, nI_sI, nR_sI, nN_sI, nI_sR, nR_sR, nN_sR, Int.toNat_natCast, true_and, and_true, false_and, and_false, if_true, if_false, reduceIte, Nat.reduceEqDiff, Option.some.injEq, Prod.mk.injEq, k_of, k_add, k_sub, k_mul, k_neg, lg_ltJ, lg_gtJ, lg_eqJ, b_0, b_J0, b_J1, b_retZ, k0, k1, k2, k3, k10, k19, k20, k30, k40, k999, ↓dayC_b, ↓gsrC_b, ↓tenC_b, ↓zooC_b, ↓isqC_b, Int.add_sub_cancel, not_true, not_false_eq_true, jn1, Bool.false_eq_true, Bool.true_eq_false, reduceCtorEq, q7, q8, h7, ej, e1, show ¬ ((0 : Int) = -1) by omega, show ((j : Nat) : Int) < 11 by omega]
  · rw [if_neg c]
    have fr : Fr P6q (sf u (if tkn L y p = 3 then 2 else 1) (stk L y p)) (sI (sI (sf u (if tkn L y p = 3 then 2 else 1) (stk L y p)) 5 j (J x)) 3 8 (J ((j : Nat) + 1))) := (Fr.rfl.sI (by unfold P6q; omega)).sI (by unfold P6q; omega)
    refine ⟨_, ?_, (sf_fr.trans (Fr.mono fr fun a k h => by unfold P6q at h; unfold P6c; omega)), rel_ft h (by split <;> omega) fr⟩
    have hS2 : SH (sf u (if tkn L y p = 3 then 2 else 1) (stk L y p)) := sf_fr.SH hS
    have q82 : mI (sf u (if tkn L y p = 3 then 2 else 1) (stk L y p)) 3 8 = J (j : Nat) := by
      unfold sf
      rw [mI_sI, if_neg (by omega), mI_sI, if_neg (by omega), mI_sI, if_neg (by omega), q8, ej]
    simp (disch := first | (simp only [SH_sIi, SH_sLi]; assumption) | assumption | (simp only [nN_sI, nN_sL, nN_sR]; assumption) | omega) only [↓s_nm, ↓s_bnd2, ↓s_some, ↓s_suml, ↓s_sumr, ↓s_nz, ↓gi_q, ↓pi_q, ↓ck_q, ↓gi_gs, ↓gr_gs, ↓g_0_0, ↓g_0_1, ↓g_0_2, ↓g_0_3, ↓g_0_4, ↓g_0_5, ↓g_0_6, ↓g_0_7, ↓g_1_0, ↓g_3_0, ↓g_3_3, ↓g_4_0, ↓g_4_1, ↓g_7_0, ↓g_7_1, ↓g_10_0, ↓g_10_1, ↓g_10_2, ↓g_34_0, ↓g_34_1, ↓g_34_2, ↓g_34_3, ↓g_34_4, ↓g_34_5, ↓g_39_2, ↓g_39_3, ↓g_39_4, ↓g_39_5, ↓g_39_6, ↓g_39_7, ↓g_39_8, ↓g_39_9, ↓g_45_0, ↓g_45_1, ↓g_45_2, ↓g_45_4, ↓g_49_0, ↓g_49_1, ↓g_49_2, ↓g_49_3, ↓g_49_4, ↓g_49_5, ↓g_49_6, ↓al_2, ↓al_5, ↓al_6, ↓al_8, ↓al_9, ↓al_11, ↓al_12, ↓al_13, ↓al_35, ↓al_36, ↓al_37, ↓al_38, ↓al_40, ↓al_41, ↓al_42, ↓al_43, ↓al_44, ↓al_46, ↓al_47, ↓al_48, ↓al_50, ↓al_51, ↓al_52, ↓al_53, ↓al_54, ↓as_2, ↓as_5, ↓as_6, ↓as_8, ↓as_9, ↓as_12, ↓as_13, ↓as_35, ↓as_36, ↓as_37, ↓as_38, ↓as_40, ↓as_41, ↓as_42, ↓as_43, ↓as_44, ↓as_46, ↓as_47, ↓as_48, ↓as_50, ↓as_51, ↓as_52, ↓as_53, ↓as_54, ↓gi_0, ↓pi_0, ↓ck_0, ↓gi_1, ↓pi_1, ↓ck_1, ↓gi_3, ↓pi_3, ↓ck_3, ↓gi_4, ↓pi_4, ↓ck_4, ↓gi_7, ↓pi_7, ↓ck_7, ↓gi_10, ↓pi_10, ↓ck_10, ↓gi_34, ↓pi_34, ↓ck_34, ↓gi_39, ↓pi_39, ↓ck_39, ↓gi_45, ↓pi_45, ↓ck_45, ↓gi_49, ↓pi_49, ↓ck_49, j0, j1, j2, j3, j4, j5, j6, j7, j8, j9, j10, j11, j12, j13, j14, j15, j16, j17, j18, j19, j20, j21, j24, j25, j30, j31, j32, j36, j41, j48, j49, j57, j59, j60, j63, j64, j81, j97, j99, j100, j122, j255, j300, j400, j500, j999, j1000, j24000, j_add, j_sub, j_mul, j_neg, j_lt, j_le, j_eq, nI_sI, nR_sI, nN_sI, nI_sR, nR_sR, nN_sR, Int.toNat_natCast, true_and, and_true, false_and, and_false, if_true, if_false, reduceIte, Nat.reduceEqDiff, Option.some.injEq, Prod.mk.injEq, k_of, k_add, k_sub, k_mul, k_neg, lg_ltJ, lg_gtJ, lg_eqJ, b_0, b_J0, b_J1, b_retZ, k0, k1, k2, k3, k10, k19, k20, k30, k40, k999, ↓dayC_b, ↓gsrC_b, ↓tenC_b, ↓zooC_b, ↓isqC_b, Int.add_sub_cancel, not_true, not_false_eq_true, jn1, Bool.false_eq_true, Bool.true_eq_false, reduceCtorEq, q7, q8, h7, ej, e1, q82, show ¬ ((0 : Int) = -1) by omega, show ((j : Nat) : Int) < 11 by omega]
/-- a number into a list's place -/
theorem taC_1 (h : TkC L y p u) (hw : Wf L p S) (h11 : S 3 11 = 0) (h7 : S 3 7 = 1) (h8 : S 3 8 < 11) (R : RelC L y (nxt L y p) S u) : ∃ v, fX6_takeToken 3 u = some v ∧ Fr P6c u v ∧ RelC L y (nxt L y p) (stp L y p S) v := by
  have hS := h.2.1.1
  have hk0 : S 3 1 = 0 := hw.2.1 h11
  have hw8 := (hw.2.2.2.2.2.1 (by omega)).1
  have r7 := R.2.2.2.2.2.2 hk0
  have q7 := r7.1
  have q8 := r7.2.1
  obtain ⟨j, hj, ej⟩ : ∃ j : Nat, j < 11 ∧ S 3 8 = (j : Nat) := ⟨(S 3 8).toNat, by omega, by omega⟩
  obtain ⟨x, w, e1, x1, x2, e2⟩ := tnC2 (lo := 0) (hi := 1000) h (by omega) (by omega) (by omega) (by omega)
  have hst : stp L y p S = if tkn L y p = 3 ∧ 0 ≤ vl L y p ∧ vl L y p ≤ 1000 then ud (ud S 57 j (vl L y p)) 3 8 ((j : Nat) + 1) else ft S (if tkn L y p = 3 then 2 else 1) (stk L y p) := by
    unfold stp
    rw [if_neg (fun x => x h11), h7, ej, if_neg (by omega), if_pos (show ((j : Nat) : Int) < nar 1 by show ((j : Nat) : Int) < 11; omega)]
    have ea : af L y p 1 (j : Nat) = if tkn L y p = 3 then (if 0 ≤ vl L y p ∧ vl L y p ≤ 1000 then 0 else 2) else 1 := rfl
    rw [ea]
    by_cases c : tkn L y p = 3
    · by_cases d : 0 ≤ vl L y p ∧ vl L y p ≤ 1000
      · rw [if_pos c, if_pos d, if_pos rfl, if_pos (show tkn L y p = 3 ∧ 0 ≤ vl L y p ∧ vl L y p ≤ 1000 from ⟨c, d⟩)]
        rfl
      · rw [if_pos c, if_neg d, if_neg (show ¬ ((2 : Int) = 0) by omega), if_neg (show ¬ (tkn L y p = 3 ∧ 0 ≤ vl L y p ∧ vl L y p ≤ 1000) from fun x => d x.2), if_pos c]
    · rw [if_neg c, if_neg (show ¬ ((1 : Int) = 0) by omega), if_neg (show ¬ (tkn L y p = 3 ∧ 0 ≤ vl L y p ∧ vl L y p ≤ 1000) from fun x => c x.1), if_neg c]
  rw [hst]
  unfold fX6_takeToken fX6_takeArgument fX6_tokensBehind
  rcases e2 with ⟨c, rfl, rfl⟩ | ⟨c, rfl⟩
  · rw [if_pos c]
    obtain ⟨f1, g1⟩ := rel_put (A := 57) (B' := j) (a := 6) (c := j) (v := vl L y p) (z := (j : Nat) + 1) R hk0 (Or.inr (Or.inr ⟨rfl, hj, rfl, rfl⟩))
    refine ⟨_, ?_, f1, g1⟩
    simp (disch := first | (simp only [SH_sIi, SH_sLi]; assumption) | assumption | (simp only [nN_sI, nN_sL, nN_sR]; assumption) | omega) only [↓s_nm, ↓s_bnd2, ↓s_some, ↓s_suml, ↓s_sumr, ↓s_nz, ↓gi_q, ↓pi_q, ↓ck_q, ↓gi_gs, ↓gr_gs, ↓g_0_0, ↓g_0_1, ↓g_0_2, ↓g_0_3, ↓g_0_4, ↓g_0_5, ↓g_0_6, ↓g_0_7, ↓g_1_0, ↓g_3_0, ↓g_3_3, ↓g_4_0, ↓g_4_1, ↓g_7_0, ↓g_7_1, ↓g_10_0, ↓g_10_1, ↓g_10_2, ↓g_34_0, ↓g_34_1, ↓g_34_2, ↓g_34_3, ↓g_34_4, ↓g_34_5, ↓g_39_2, ↓g_39_3, ↓g_39_4, ↓g_39_5, ↓g_39_6, ↓g_39_7, ↓g_39_8, ↓g_39_9, ↓g_45_0, ↓g_45_1, ↓g_45_2, ↓g_45_4, ↓g_49_0, ↓g_49_1, ↓g_49_2, ↓g_49_3, ↓g_49_4, ↓g_49_5, ↓g_49_6, ↓al_2, ↓al_5, ↓al_6, ↓al_8, ↓al_9, ↓al_11, ↓al_12, ↓al_13, ↓al_35, ↓al_36, ↓al_37, ↓al_38, ↓al_40, ↓al_41, ↓al_42, ↓al_43, ↓al_44, ↓al_46, ↓al_47, ↓al_48, ↓al_50, ↓al_51, ↓al_52, ↓al_53, ↓al_54, ↓as_2, ↓as_5, ↓as_6, ↓as_8, ↓as_9, ↓as_12, ↓as_13, ↓as_35, ↓as_36, ↓as_37, ↓as_38, ↓as_40, ↓as_41, ↓as_42, ↓as_43, ↓as_44, ↓as_46, ↓as_47, ↓as_48, ↓as_50, ↓as_51, ↓as_52, ↓as_53, ↓as_54, ↓gi_0, ↓pi_0, ↓ck_0, ↓gi_1, ↓pi_1, ↓ck_1, ↓gi_3, ↓pi_3, ↓ck_3, ↓gi_4, ↓pi_4, ↓ck_4, ↓gi_7, ↓pi_7, ↓ck_7, ↓gi_10, ↓pi_10, ↓ck_10, ↓gi_34, ↓pi_34, ↓ck_34, ↓gi_39, ↓pi_39, ↓ck_39, ↓gi_45, ↓pi_45, ↓ck_45, ↓gi_49, ↓pi_49, ↓ck_49, j0, j1, j2, j3, j4, j5, j6, j7, j8, j9, j10, j11, j12, j13, j14, j15, j16, j17, j18, j19, j20, j21, j24, j25, j30, j31, j32, j36, j41, j48, j49, j57, j59, j60, j63, j64, j81, j97, j99, j100, j122, j255, j300, j400, j500, j999, j1000, j24000, j_add, j_sub, j_mul, j_neg, j_lt, j_le, j_eq, nI_sI, nR_sI, nN_sI, nI_sR, nR_sR, nN_sR, Int.toNat_natCast, true_and, and_true, false_and, and_false, if_true, if_false, reduceIte, Nat.reduceEqDiff, Option.some.injEq, Prod.mk.injEq, k_of, k_add, k_sub, k_mul, k_neg, lg_ltJ, lg_gtJ, lg_eqJ, b_0, b_J0, b_J1, b_retZ, k0, k1, k2, k3, k10, k19, k20, k30, k40, k999, ↓dayC_b, ↓gsrC_b, ↓tenC_b, ↓zooC_b, ↓isqC_b, Int.add_sub_cancel, not_true, not_false_eq_true, jn1, Bool.false_eq_true, Bool.true_eq_false, reduceCtorEq, q7, q8, h7, ej, e1, show ¬ ((1 : Int) = -1) by omega, show ¬ ((1 : Int) = 0) by omega, show ((j : Nat) : Int) < 11 by omega]
  · rw [if_neg c]
    have fr : Fr P6q (sf u (if tkn L y p = 3 then 2 else 1) (stk L y p)) (sI (sI (sf u (if tkn L y p = 3 then 2 else 1) (stk L y p)) 6 j (J x)) 3 8 (J ((j : Nat) + 1))) := (Fr.rfl.sI (by unfold P6q; omega)).sI (by unfold P6q; omega)
    refine ⟨_, ?_, (sf_fr.trans (Fr.mono fr fun a k h => by unfold P6q at h; unfold P6c; omega)), rel_ft h (by split <;> omega) fr⟩
    have hS2 : SH (sf u (if tkn L y p = 3 then 2 else 1) (stk L y p)) := sf_fr.SH hS
    have q82 : mI (sf u (if tkn L y p = 3 then 2 else 1) (stk L y p)) 3 8 = J (j : Nat) := by
      unfold sf
      rw [mI_sI, if_neg (by omega), mI_sI, if_neg (by omega), mI_sI, if_neg (by omega), q8, ej]
    simp (disch := first | (simp only [SH_sIi, SH_sLi]; assumption) | assumption | (simp only [nN_sI, nN_sL, nN_sR]; assumption) | omega) only [↓s_nm, ↓s_bnd2, ↓s_some, ↓s_suml, ↓s_sumr, ↓s_nz, ↓gi_q, ↓pi_q, ↓ck_q, ↓gi_gs, ↓gr_gs, ↓g_0_0, ↓g_0_1, ↓g_0_2, ↓g_0_3, ↓g_0_4, ↓g_0_5, ↓g_0_6, ↓g_0_7, ↓g_1_0, ↓g_3_0, ↓g_3_3, ↓g_4_0, ↓g_4_1, ↓g_7_0, ↓g_7_1, ↓g_10_0, ↓g_10_1, ↓g_10_2, ↓g_34_0, ↓g_34_1, ↓g_34_2, ↓g_34_3, ↓g_34_4, ↓g_34_5, ↓g_39_2, ↓g_39_3, ↓g_39_4, ↓g_39_5, ↓g_39_6, ↓g_39_7, ↓g_39_8, ↓g_39_9, ↓g_45_0, ↓g_45_1, ↓g_45_2, ↓g_45_4, ↓g_49_0, ↓g_49_1, ↓g_49_2, ↓g_49_3, ↓g_49_4, ↓g_49_5, ↓g_49_6, ↓al_2, ↓al_5, ↓al_6, ↓al_8, ↓al_9, ↓al_11, ↓al_12, ↓al_13, ↓al_35, ↓al_36, ↓al_37, ↓al_38, ↓al_40, ↓al_41, ↓al_42, ↓al_43, ↓al_44, ↓al_46, ↓al_47, ↓al_48, ↓al_50, ↓al_51, ↓al_52, ↓al_53, ↓al_54, ↓as_2, ↓as_5, ↓as_6, ↓as_8, ↓as_9, ↓as_12, ↓as_13, ↓as_35, ↓as_36, ↓as_37, ↓as_38, ↓as_40, ↓as_41, ↓as_42, ↓as_43, ↓as_44, ↓as_46, ↓as_47, ↓as_48, ↓as_50, ↓as_51, ↓as_52, ↓as_53, ↓as_54, ↓gi_0, ↓pi_0, ↓ck_0, ↓gi_1, ↓pi_1, ↓ck_1, ↓gi_3, ↓pi_3, ↓ck_3, ↓gi_4, ↓pi_4, ↓ck_4, ↓gi_7, ↓pi_7, ↓ck_7, ↓gi_10, ↓pi_10, ↓ck_10, ↓gi_34, ↓pi_34, ↓ck_34, ↓gi_39, ↓pi_39, ↓ck_39, ↓gi_45, ↓pi_45, ↓ck_45, ↓gi_49, ↓pi_49, ↓ck_49, j0, j1, j2, j3, j4, j5, j6, j7, j8, j9, j10, j11, j12, j13, j14, j15, j16, j17, j18, j19, j20, j21, j24, j25, j30, j31, j32, j36, j41, j48, j49, j57, j59, j60, j63, j64, j81, j97, j99, j100, j122, j255, j300, j400, j500, j999, j1000, j24000, j_add, j_sub, j_mul, j_neg, j_lt, j_le, j_eq, nI_sI, nR_sI, nN_sI, nI_sR, nR_sR, nN_sR, Int.toNat_natCast, true_and, and_true, false_and, and_false, if_true, if_false, reduceIte, Nat.reduceEqDiff, Option.some.injEq, Prod.mk.injEq, k_of, k_add, k_sub, k_mul, k_neg, lg_ltJ, lg_gtJ, lg_eqJ, b_0, b_J0, b_J1, b_retZ, k0, k1, k2, k3, k10, k19, k20, k30, k40, k999, ↓dayC_b, ↓gsrC_b, ↓tenC_b, ↓zooC_b, ↓isqC_b, Int.add_sub_cancel, not_true, not_false_eq_true, jn1, Bool.false_eq_true, Bool.true_eq_false, reduceCtorEq, q7, q8, h7, ej, e1, q82, show ¬ ((1 : Int) = -1) by omega, show ¬ ((1 : Int) = 0) by omega, show ((j : Nat) : Int) < 11 by omega]
/-- a number into a list's place -/
theorem taC_40 (h : TkC L y p u) (hw : Wf L p S) (h11 : S 3 11 = 0) (h7 : S 3 7 = 4) (ej : S 3 8 = 0) (R : RelC L y (nxt L y p) S u) : ∃ v, fX6_takeToken 3 u = some v ∧ Fr P6c u v ∧ RelC L y (nxt L y p) (stp L y p S) v := by
  have hS := h.2.1.1
  have hk0 : S 3 1 = 0 := hw.2.1 h11
  have hw8 := (hw.2.2.2.2.2.1 (by omega)).1
  have r7 := R.2.2.2.2.2.2 hk0
  have q7 := r7.1
  have q8 := r7.2.1
  obtain ⟨x, w, e1, x1, x2, e2⟩ := tnC2 (lo := 1) (hi := 30) h (by omega) (by omega) (by omega) (by omega)
  have hst : stp L y p S = if tkn L y p = 3 ∧ 1 ≤ vl L y p ∧ vl L y p ≤ 30 then ud (ud S 55 2 (vl L y p)) 3 8 1 else ft S (if tkn L y p = 3 then 2 else 1) (stk L y p) := by
    unfold stp
    rw [if_neg (fun x => x h11), h7, ej, if_neg (by omega), if_pos (show (0 : Int) < nar 4 by show (0 : Int) < 2; omega)]
    have ea : af L y p 4 0 = if tkn L y p = 3 then (if 1 ≤ vl L y p ∧ vl L y p ≤ 30 then 0 else 2) else 1 := rfl
    rw [ea]
    by_cases c : tkn L y p = 3
    · by_cases d : 1 ≤ vl L y p ∧ vl L y p ≤ 30
      · rw [if_pos c, if_pos d, if_pos rfl, if_pos (show tkn L y p = 3 ∧ 1 ≤ vl L y p ∧ vl L y p ≤ 30 from ⟨c, d⟩)]
        rfl
      · rw [if_pos c, if_neg d, if_neg (show ¬ ((2 : Int) = 0) by omega), if_neg (show ¬ (tkn L y p = 3 ∧ 1 ≤ vl L y p ∧ vl L y p ≤ 30) from fun x => d x.2), if_pos c]
    · rw [if_neg c, if_neg (show ¬ ((1 : Int) = 0) by omega), if_neg (show ¬ (tkn L y p = 3 ∧ 1 ≤ vl L y p ∧ vl L y p ≤ 30) from fun x => c x.1), if_neg c]
  rw [hst]
  unfold fX6_takeToken fX6_takeArgument fX6_tokensBehind fX6_takeOfCopy
  rcases e2 with ⟨c, rfl, rfl⟩ | ⟨c, rfl⟩
  · rw [if_pos c]
    obtain ⟨f1, g1⟩ := rel_put (A := 55) (B' := 2) (a := 4) (c := 4) (v := vl L y p) (z := 1) R hk0 (Or.inl ⟨rfl, by omega, rfl, rfl⟩)
    refine ⟨_, ?_, f1, g1⟩
    simp (disch := first | (simp only [SH_sIi, SH_sLi]; assumption) | assumption | (simp only [nN_sI, nN_sL, nN_sR]; assumption) | omega) only [↓s_nm, ↓s_bnd2, ↓s_some, ↓s_suml, ↓s_sumr, ↓s_nz, ↓gi_q, ↓pi_q, ↓ck_q, ↓gi_gs, ↓gr_gs, ↓g_0_0, ↓g_0_1, ↓g_0_2, ↓g_0_3, ↓g_0_4, ↓g_0_5, ↓g_0_6, ↓g_0_7, ↓g_1_0, ↓g_3_0, ↓g_3_3, ↓g_4_0, ↓g_4_1, ↓g_7_0, ↓g_7_1, ↓g_10_0, ↓g_10_1, ↓g_10_2, ↓g_34_0, ↓g_34_1, ↓g_34_2, ↓g_34_3, ↓g_34_4, ↓g_34_5, ↓g_39_2, ↓g_39_3, ↓g_39_4, ↓g_39_5, ↓g_39_6, ↓g_39_7, ↓g_39_8, ↓g_39_9, ↓g_45_0, ↓g_45_1, ↓g_45_2, ↓g_45_4, ↓g_49_0, ↓g_49_1, ↓g_49_2, ↓g_49_3, ↓g_49_4, ↓g_49_5, ↓g_49_6, ↓al_2, ↓al_5, ↓al_6, ↓al_8, ↓al_9, ↓al_11, ↓al_12, ↓al_13, ↓al_35, ↓al_36, ↓al_37, ↓al_38, ↓al_40, ↓al_41, ↓al_42, ↓al_43, ↓al_44, ↓al_46, ↓al_47, ↓al_48, ↓al_50, ↓al_51, ↓al_52, ↓al_53, ↓al_54, ↓as_2, ↓as_5, ↓as_6, ↓as_8, ↓as_9, ↓as_12, ↓as_13, ↓as_35, ↓as_36, ↓as_37, ↓as_38, ↓as_40, ↓as_41, ↓as_42, ↓as_43, ↓as_44, ↓as_46, ↓as_47, ↓as_48, ↓as_50, ↓as_51, ↓as_52, ↓as_53, ↓as_54, ↓gi_0, ↓pi_0, ↓ck_0, ↓gi_1, ↓pi_1, ↓ck_1, ↓gi_3, ↓pi_3, ↓ck_3, ↓gi_4, ↓pi_4, ↓ck_4, ↓gi_7, ↓pi_7, ↓ck_7, ↓gi_10, ↓pi_10, ↓ck_10, ↓gi_34, ↓pi_34, ↓ck_34, ↓gi_39, ↓pi_39, ↓ck_39, ↓gi_45, ↓pi_45, ↓ck_45, ↓gi_49, ↓pi_49, ↓ck_49, j0, j1, j2, j3, j4, j5, j6, j7, j8, j9, j10, j11, j12, j13, j14, j15, j16, j17, j18, j19, j20, j21, j24, j25, j30, j31, j32, j36, j41, j48, j49, j57, j59, j60, j63, j64, j81, j97, j99, j100, j122, j255, j300, j400, j500, j999, j1000, j24000, j_add, j_sub, j_mul, j_neg, j_lt, j_le, j_eq, nI_sI, nR_sI, nN_sI, nI_sR, nR_sR, nN_sR, Int.toNat_natCast, true_and, and_true, false_and, and_false, if_true, if_false, reduceIte, Nat.reduceEqDiff, Option.some.injEq, Prod.mk.injEq, k_of, k_add, k_sub, k_mul, k_neg, lg_ltJ, lg_gtJ, lg_eqJ, b_0, b_J0, b_J1, b_retZ, k0, k1, k2, k3, k10, k19, k20, k30, k40, k999, ↓dayC_b, ↓gsrC_b, ↓tenC_b, ↓zooC_b, ↓isqC_b, Int.add_sub_cancel, not_true, not_false_eq_true, jn1, Bool.false_eq_true, Bool.true_eq_false, reduceCtorEq, q7, q8, h7, ej, e1, show ¬ ((4 : Int) = -1) by omega, show ¬ ((4 : Int) = 0) by omega, show ¬ ((4 : Int) = 1) by omega, show ¬ ((4 : Int) = 2) by omega, show ¬ ((4 : Int) = 3) by omega, show (0 : Int) < 2 by omega, show (0 : Int) + 1 = 1 from rfl]
  · rw [if_neg c]
    have fr : Fr P6q (sf u (if tkn L y p = 3 then 2 else 1) (stk L y p)) (sI (sI (sf u (if tkn L y p = 3 then 2 else 1) (stk L y p)) 4 4 (J x)) 3 8 (J 1)) := (Fr.rfl.sI (by unfold P6q; omega)).sI (by unfold P6q; omega)
    refine ⟨_, ?_, (sf_fr.trans (Fr.mono fr fun a k h => by unfold P6q at h; unfold P6c; omega)), rel_ft h (by split <;> omega) fr⟩
    have hS2 : SH (sf u (if tkn L y p = 3 then 2 else 1) (stk L y p)) := sf_fr.SH hS
    have q82 : mI (sf u (if tkn L y p = 3 then 2 else 1) (stk L y p)) 3 8 = J 0 := by
      unfold sf
      rw [mI_sI, if_neg (by omega), mI_sI, if_neg (by omega), mI_sI, if_neg (by omega), q8, ej]
    simp (disch := first | (simp only [SH_sIi, SH_sLi]; assumption) | assumption | (simp only [nN_sI, nN_sL, nN_sR]; assumption) | omega) only [↓s_nm, ↓s_bnd2, ↓s_some, ↓s_suml, ↓s_sumr, ↓s_nz, ↓gi_q, ↓pi_q, ↓ck_q, ↓gi_gs, ↓gr_gs, ↓g_0_0, ↓g_0_1, ↓g_0_2, ↓g_0_3, ↓g_0_4, ↓g_0_5, ↓g_0_6, ↓g_0_7, ↓g_1_0, ↓g_3_0, ↓g_3_3, ↓g_4_0, ↓g_4_1, ↓g_7_0, ↓g_7_1, ↓g_10_0, ↓g_10_1, ↓g_10_2, ↓g_34_0, ↓g_34_1, ↓g_34_2, ↓g_34_3, ↓g_34_4, ↓g_34_5, ↓g_39_2, ↓g_39_3, ↓g_39_4, ↓g_39_5, ↓g_39_6, ↓g_39_7, ↓g_39_8, ↓g_39_9, ↓g_45_0, ↓g_45_1, ↓g_45_2, ↓g_45_4, ↓g_49_0, ↓g_49_1, ↓g_49_2, ↓g_49_3, ↓g_49_4, ↓g_49_5, ↓g_49_6, ↓al_2, ↓al_5, ↓al_6, ↓al_8, ↓al_9, ↓al_11, ↓al_12, ↓al_13, ↓al_35, ↓al_36, ↓al_37, ↓al_38, ↓al_40, ↓al_41, ↓al_42, ↓al_43, ↓al_44, ↓al_46, ↓al_47, ↓al_48, ↓al_50, ↓al_51, ↓al_52, ↓al_53, ↓al_54, ↓as_2, ↓as_5, ↓as_6, ↓as_8, ↓as_9, ↓as_12, ↓as_13, ↓as_35, ↓as_36, ↓as_37, ↓as_38, ↓as_40, ↓as_41, ↓as_42, ↓as_43, ↓as_44, ↓as_46, ↓as_47, ↓as_48, ↓as_50, ↓as_51, ↓as_52, ↓as_53, ↓as_54, ↓gi_0, ↓pi_0, ↓ck_0, ↓gi_1, ↓pi_1, ↓ck_1, ↓gi_3, ↓pi_3, ↓ck_3, ↓gi_4, ↓pi_4, ↓ck_4, ↓gi_7, ↓pi_7, ↓ck_7, ↓gi_10, ↓pi_10, ↓ck_10, ↓gi_34, ↓pi_34, ↓ck_34, ↓gi_39, ↓pi_39, ↓ck_39, ↓gi_45, ↓pi_45, ↓ck_45, ↓gi_49, ↓pi_49, ↓ck_49, j0, j1, j2, j3, j4, j5, j6, j7, j8, j9, j10, j11, j12, j13, j14, j15, j16, j17, j18, j19, j20, j21, j24, j25, j30, j31, j32, j36, j41, j48, j49, j57, j59, j60, j63, j64, j81, j97, j99, j100, j122, j255, j300, j400, j500, j999, j1000, j24000, j_add, j_sub, j_mul, j_neg, j_lt, j_le, j_eq, nI_sI, nR_sI, nN_sI, nI_sR, nR_sR, nN_sR, Int.toNat_natCast, true_and, and_true, false_and, and_false, if_true, if_false, reduceIte, Nat.reduceEqDiff, Option.some.injEq, Prod.mk.injEq, k_of, k_add, k_sub, k_mul, k_neg, lg_ltJ, lg_gtJ, lg_eqJ, b_0, b_J0, b_J1, b_retZ, k0, k1, k2, k3, k10, k19, k20, k30, k40, k999, ↓dayC_b, ↓gsrC_b, ↓tenC_b, ↓zooC_b, ↓isqC_b, Int.add_sub_cancel, not_true, not_false_eq_true, jn1, Bool.false_eq_true, Bool.true_eq_false, reduceCtorEq, q7, q8, h7, ej, e1, q82, show ¬ ((4 : Int) = -1) by omega, show ¬ ((4 : Int) = 0) by omega, show ¬ ((4 : Int) = 1) by omega, show ¬ ((4 : Int) = 2) by omega, show ¬ ((4 : Int) = 3) by omega, show (0 : Int) < 2 by omega, show (0 : Int) + 1 = 1 from rfl]
/-- a number into a list's place -/
theorem taC_41 (h : TkC L y p u) (hw : Wf L p S) (h11 : S 3 11 = 0) (h7 : S 3 7 = 4) (ej : S 3 8 = 1) (R : RelC L y (nxt L y p) S u) : ∃ v, fX6_takeToken 3 u = some v ∧ Fr P6c u v ∧ RelC L y (nxt L y p) (stp L y p S) v := by
  have hS := h.2.1.1
  have hk0 : S 3 1 = 0 := hw.2.1 h11
  have hw8 := (hw.2.2.2.2.2.1 (by omega)).1
  have r7 := R.2.2.2.2.2.2 hk0
  have q7 := r7.1
  have q8 := r7.2.1
  obtain ⟨x, w, e1, x1, x2, e2⟩ := tnC2 (lo := 1) (hi := 99) h (by omega) (by omega) (by omega) (by omega)
  have hst : stp L y p S = if tkn L y p = 3 ∧ 1 ≤ vl L y p ∧ vl L y p ≤ 99 then ud (ud S 55 3 (vl L y p)) 3 8 2 else ft S (if tkn L y p = 3 then 2 else 1) (stk L y p) := by
    unfold stp
    rw [if_neg (fun x => x h11), h7, ej, if_neg (by omega), if_pos (show (1 : Int) < nar 4 by show (1 : Int) < 2; omega)]
    have ea : af L y p 4 1 = if tkn L y p = 3 then (if 1 ≤ vl L y p ∧ vl L y p ≤ 99 then 0 else 2) else 1 := rfl
    rw [ea]
    by_cases c : tkn L y p = 3
    · by_cases d : 1 ≤ vl L y p ∧ vl L y p ≤ 99
      · rw [if_pos c, if_pos d, if_pos rfl, if_pos (show tkn L y p = 3 ∧ 1 ≤ vl L y p ∧ vl L y p ≤ 99 from ⟨c, d⟩)]
        rfl
      · rw [if_pos c, if_neg d, if_neg (show ¬ ((2 : Int) = 0) by omega), if_neg (show ¬ (tkn L y p = 3 ∧ 1 ≤ vl L y p ∧ vl L y p ≤ 99) from fun x => d x.2), if_pos c]
    · rw [if_neg c, if_neg (show ¬ ((1 : Int) = 0) by omega), if_neg (show ¬ (tkn L y p = 3 ∧ 1 ≤ vl L y p ∧ vl L y p ≤ 99) from fun x => c x.1), if_neg c]
  rw [hst]
  unfold fX6_takeToken fX6_takeArgument fX6_tokensBehind fX6_takeOfCopy
  rcases e2 with ⟨c, rfl, rfl⟩ | ⟨c, rfl⟩
  · rw [if_pos c]
    obtain ⟨f1, g1⟩ := rel_put (A := 55) (B' := 3) (a := 4) (c := 5) (v := vl L y p) (z := 2) R hk0 (Or.inl ⟨rfl, by omega, rfl, rfl⟩)
    refine ⟨_, ?_, f1, g1⟩
    simp (disch := first | (simp only [SH_sIi, SH_sLi]; assumption) | assumption | (simp only [nN_sI, nN_sL, nN_sR]; assumption) | omega) only [↓s_nm, ↓s_bnd2, ↓s_some, ↓s_suml, ↓s_sumr, ↓s_nz, ↓gi_q, ↓pi_q, ↓ck_q, ↓gi_gs, ↓gr_gs, ↓g_0_0, ↓g_0_1, ↓g_0_2, ↓g_0_3, ↓g_0_4, ↓g_0_5, ↓g_0_6, ↓g_0_7, ↓g_1_0, ↓g_3_0, ↓g_3_3, ↓g_4_0, ↓g_4_1, ↓g_7_0, ↓g_7_1, ↓g_10_0, ↓g_10_1, ↓g_10_2, ↓g_34_0, ↓g_34_1, ↓g_34_2, ↓g_34_3, ↓g_34_4, ↓g_34_5, ↓g_39_2, ↓g_39_3, ↓g_39_4, ↓g_39_5, ↓g_39_6, ↓g_39_7, ↓g_39_8, ↓g_39_9, ↓g_45_0, ↓g_45_1, ↓g_45_2, ↓g_45_4, ↓g_49_0, ↓g_49_1, ↓g_49_2, ↓g_49_3, ↓g_49_4, ↓g_49_5, ↓g_49_6, ↓al_2, ↓al_5, ↓al_6, ↓al_8, ↓al_9, ↓al_11, ↓al_12, ↓al_13, ↓al_35, ↓al_36, ↓al_37, ↓al_38, ↓al_40, ↓al_41, ↓al_42, ↓al_43, ↓al_44, ↓al_46, ↓al_47, ↓al_48, ↓al_50, ↓al_51, ↓al_52, ↓al_53, ↓al_54, ↓as_2, ↓as_5, ↓as_6, ↓as_8, ↓as_9, ↓as_12, ↓as_13, ↓as_35, ↓as_36, ↓as_37, ↓as_38, ↓as_40, ↓as_41, ↓as_42, ↓as_43, ↓as_44, ↓as_46, ↓as_47, ↓as_48, ↓as_50, ↓as_51, ↓as_52, ↓as_53, ↓as_54, ↓gi_0, ↓pi_0, ↓ck_0, ↓gi_1, ↓pi_1, ↓ck_1, ↓gi_3, ↓pi_3, ↓ck_3, ↓gi_4, ↓pi_4, ↓ck_4, ↓gi_7, ↓pi_7, ↓ck_7, ↓gi_10, ↓pi_10, ↓ck_10, ↓gi_34, ↓pi_34, ↓ck_34, ↓gi_39, ↓pi_39, ↓ck_39, ↓gi_45, ↓pi_45, ↓ck_45, ↓gi_49, ↓pi_49, ↓ck_49, j0, j1, j2, j3, j4, j5, j6, j7, j8, j9, j10, j11, j12, j13, j14, j15, j16, j17, j18, j19, j20, j21, j24, j25, j30, j31, j32, j36, j41, j48, j49, j57, j59, j60, j63, j64, j81, j97, j99, j100, j122, j255, j300, j400, j500, j999, j1000, j24000, j_add, j_sub, j_mul, j_neg, j_lt, j_le, j_eq, nI_sI, nR_sI, nN_sI, nI_sR, nR_sR, nN_sR, Int.toNat_natCast, true_and, and_true, false_and, and_false, if_true, if_false, reduceIte, Nat.reduceEqDiff, Option.some.injEq, Prod.mk.injEq, k_of, k_add, k_sub, k_mul, k_neg, lg_ltJ, lg_gtJ, lg_eqJ, b_0, b_J0, b_J1, b_retZ, k0, k1, k2, k3, k10, k19, k20, k30, k40, k999, ↓dayC_b, ↓gsrC_b, ↓tenC_b, ↓zooC_b, ↓isqC_b, Int.add_sub_cancel, not_true, not_false_eq_true, jn1, Bool.false_eq_true, Bool.true_eq_false, reduceCtorEq, q7, q8, h7, ej, e1, show ¬ ((4 : Int) = -1) by omega, show ¬ ((4 : Int) = 0) by omega, show ¬ ((4 : Int) = 1) by omega, show ¬ ((4 : Int) = 2) by omega, show ¬ ((4 : Int) = 3) by omega, show ¬ ((1 : Int) = 0) by omega, show (1 : Int) < 2 by omega, show (1 : Int) + 1 = 2 from rfl]
  · rw [if_neg c]
    have fr : Fr P6q (sf u (if tkn L y p = 3 then 2 else 1) (stk L y p)) (sI (sI (sf u (if tkn L y p = 3 then 2 else 1) (stk L y p)) 4 5 (J x)) 3 8 (J 2)) := (Fr.rfl.sI (by unfold P6q; omega)).sI (by unfold P6q; omega)
    refine ⟨_, ?_, (sf_fr.trans (Fr.mono fr fun a k h => by unfold P6q at h; unfold P6c; omega)), rel_ft h (by split <;> omega) fr⟩
    have hS2 : SH (sf u (if tkn L y p = 3 then 2 else 1) (stk L y p)) := sf_fr.SH hS
    have q82 : mI (sf u (if tkn L y p = 3 then 2 else 1) (stk L y p)) 3 8 = J 1 := by
      unfold sf
      rw [mI_sI, if_neg (by omega), mI_sI, if_neg (by omega), mI_sI, if_neg (by omega), q8, ej]
    simp (disch := first | (simp only [SH_sIi, SH_sLi]; assumption) | assumption | (simp only [nN_sI, nN_sL, nN_sR]; assumption) | omega) only [↓s_nm, ↓s_bnd2, ↓s_some, ↓s_suml, ↓s_sumr, ↓s_nz, ↓gi_q, ↓pi_q, ↓ck_q, ↓gi_gs, ↓gr_gs, ↓g_0_0, ↓g_0_1, ↓g_0_2, ↓g_0_3, ↓g_0_4, ↓g_0_5, ↓g_0_6, ↓g_0_7, ↓g_1_0, ↓g_3_0, ↓g_3_3, ↓g_4_0, ↓g_4_1, ↓g_7_0, ↓g_7_1, ↓g_10_0, ↓g_10_1, ↓g_10_2, ↓g_34_0, ↓g_34_1, ↓g_34_2, ↓g_34_3, ↓g_34_4, ↓g_34_5, ↓g_39_2, ↓g_39_3, ↓g_39_4, ↓g_39_5, ↓g_39_6, ↓g_39_7, ↓g_39_8, ↓g_39_9, ↓g_45_0, ↓g_45_1, ↓g_45_2, ↓g_45_4, ↓g_49_0, ↓g_49_1, ↓g_49_2, ↓g_49_3, ↓g_49_4, ↓g_49_5, ↓g_49_6, ↓al_2, ↓al_5, ↓al_6, ↓al_8, ↓al_9, ↓al_11, ↓al_12, ↓al_13, ↓al_35, ↓al_36, ↓al_37, ↓al_38, ↓al_40, ↓al_41, ↓al_42, ↓al_43, ↓al_44, ↓al_46, ↓al_47, ↓al_48, ↓al_50, ↓al_51, ↓al_52, ↓al_53, ↓al_54, ↓as_2, ↓as_5, ↓as_6, ↓as_8, ↓as_9, ↓as_12, ↓as_13, ↓as_35, ↓as_36, ↓as_37, ↓as_38, ↓as_40, ↓as_41, ↓as_42, ↓as_43, ↓as_44, ↓as_46, ↓as_47, ↓as_48, ↓as_50, ↓as_51, ↓as_52, ↓as_53, ↓as_54, ↓gi_0, ↓pi_0, ↓ck_0, ↓gi_1, ↓pi_1, ↓ck_1, ↓gi_3, ↓pi_3, ↓ck_3, ↓gi_4, ↓pi_4, ↓ck_4, ↓gi_7, ↓pi_7, ↓ck_7, ↓gi_10, ↓pi_10, ↓ck_10, ↓gi_34, ↓pi_34, ↓ck_34, ↓gi_39, ↓pi_39, ↓ck_39, ↓gi_45, ↓pi_45, ↓ck_45, ↓gi_49, ↓pi_49, ↓ck_49, j0, j1, j2, j3, j4, j5, j6, j7, j8, j9, j10, j11, j12, j13, j14, j15, j16, j17, j18, j19, j20, j21, j24, j25, j30, j31, j32, j36, j41, j48, j49, j57, j59, j60, j63, j64, j81, j97, j99, j100, j122, j255, j300, j400, j500, j999, j1000, j24000, j_add, j_sub, j_mul, j_neg, j_lt, j_le, j_eq, nI_sI, nR_sI, nN_sI, nI_sR, nR_sR, nN_sR, Int.toNat_natCast, true_and, and_true, false_and, and_false, if_true, if_false, reduceIte, Nat.reduceEqDiff, Option.some.injEq, Prod.mk.injEq, k_of, k_add, k_sub, k_mul, k_neg, lg_ltJ, lg_gtJ, lg_eqJ, b_0, b_J0, b_J1, b_retZ, k0, k1, k2, k3, k10, k19, k20, k30, k40, k999, ↓dayC_b, ↓gsrC_b, ↓tenC_b, ↓zooC_b, ↓isqC_b, Int.add_sub_cancel, not_true, not_false_eq_true, jn1, Bool.false_eq_true, Bool.true_eq_false, reduceCtorEq, q7, q8, h7, ej, e1, q82, show ¬ ((4 : Int) = -1) by omega, show ¬ ((4 : Int) = 0) by omega, show ¬ ((4 : Int) = 1) by omega, show ¬ ((4 : Int) = 2) by omega, show ¬ ((4 : Int) = 3) by omega, show ¬ ((1 : Int) = 0) by omega, show (1 : Int) < 2 by omega, show (1 : Int) + 1 = 2 from rfl]
/-- a number into a list's place -/
theorem taC_5 (h : TkC L y p u) (hw : Wf L p S) (h11 : S 3 11 = 0) (h7 : S 3 7 = 5) (ej : S 3 8 = 0) (R : RelC L y (nxt L y p) S u) : ∃ v, fX6_takeToken 3 u = some v ∧ Fr P6c u v ∧ RelC L y (nxt L y p) (stp L y p S) v := by
  have hS := h.2.1.1
  have hk0 : S 3 1 = 0 := hw.2.1 h11
  have hw8 := (hw.2.2.2.2.2.1 (by omega)).1
  have r7 := R.2.2.2.2.2.2 hk0
  have q7 := r7.1
  have q8 := r7.2.1
  obtain ⟨x, w, e1, x1, x2, e2⟩ := tnC2 (lo := 1) (hi := 99) h (by omega) (by omega) (by omega) (by omega)
  have hst : stp L y p S = if tkn L y p = 3 ∧ 1 ≤ vl L y p ∧ vl L y p ≤ 99 then ud (ud S 55 4 (vl L y p)) 3 8 1 else ft S (if tkn L y p = 3 then 2 else 1) (stk L y p) := by
    unfold stp
    rw [if_neg (fun x => x h11), h7, ej, if_neg (by omega), if_pos (show (0 : Int) < nar 5 by show (0 : Int) < 1; omega)]
    have ea : af L y p 5 0 = if tkn L y p = 3 then (if 1 ≤ vl L y p ∧ vl L y p ≤ 99 then 0 else 2) else 1 := rfl
    rw [ea]
    by_cases c : tkn L y p = 3
    · by_cases d : 1 ≤ vl L y p ∧ vl L y p ≤ 99
      · rw [if_pos c, if_pos d, if_pos rfl, if_pos (show tkn L y p = 3 ∧ 1 ≤ vl L y p ∧ vl L y p ≤ 99 from ⟨c, d⟩)]
        rfl
      · rw [if_pos c, if_neg d, if_neg (show ¬ ((2 : Int) = 0) by omega), if_neg (show ¬ (tkn L y p = 3 ∧ 1 ≤ vl L y p ∧ vl L y p ≤ 99) from fun x => d x.2), if_pos c]
    · rw [if_neg c, if_neg (show ¬ ((1 : Int) = 0) by omega), if_neg (show ¬ (tkn L y p = 3 ∧ 1 ≤ vl L y p ∧ vl L y p ≤ 99) from fun x => c x.1), if_neg c]
  rw [hst]
  unfold fX6_takeToken fX6_takeArgument fX6_tokensBehind
  rcases e2 with ⟨c, rfl, rfl⟩ | ⟨c, rfl⟩
  · rw [if_pos c]
    obtain ⟨f1, g1⟩ := rel_put (A := 55) (B' := 4) (a := 4) (c := 6) (v := vl L y p) (z := 1) R hk0 (Or.inl ⟨rfl, by omega, rfl, rfl⟩)
    refine ⟨_, ?_, f1, g1⟩
    simp (disch := first | (simp only [SH_sIi, SH_sLi]; assumption) | assumption | (simp only [nN_sI, nN_sL, nN_sR]; assumption) | omega) only [↓s_nm, ↓s_bnd2, ↓s_some, ↓s_suml, ↓s_sumr, ↓s_nz, ↓gi_q, ↓pi_q, ↓ck_q, ↓gi_gs, ↓gr_gs, ↓g_0_0, ↓g_0_1, ↓g_0_2, ↓g_0_3, ↓g_0_4, ↓g_0_5, ↓g_0_6, ↓g_0_7, ↓g_1_0, ↓g_3_0, ↓g_3_3, ↓g_4_0, ↓g_4_1, ↓g_7_0, ↓g_7_1, ↓g_10_0, ↓g_10_1, ↓g_10_2, ↓g_34_0, ↓g_34_1, ↓g_34_2, ↓g_34_3, ↓g_34_4, ↓g_34_5, ↓g_39_2, ↓g_39_3, ↓g_39_4, ↓g_39_5, ↓g_39_6, ↓g_39_7, ↓g_39_8, ↓g_39_9, ↓g_45_0, ↓g_45_1, ↓g_45_2, ↓g_45_4, ↓g_49_0, ↓g_49_1, ↓g_49_2, ↓g_49_3, ↓g_49_4, ↓g_49_5, ↓g_49_6, ↓al_2, ↓al_5, ↓al_6, ↓al_8, ↓al_9, ↓al_11, ↓al_12, ↓al_13, ↓al_35, ↓al_36, ↓al_37, ↓al_38, ↓al_40, ↓al_41, ↓al_42, ↓al_43, ↓al_44, ↓al_46, ↓al_47, ↓al_48, ↓al_50, ↓al_51, ↓al_52, ↓al_53, ↓al_54, ↓as_2, ↓as_5, ↓as_6, ↓as_8, ↓as_9, ↓as_12, ↓as_13, ↓as_35, ↓as_36, ↓as_37, ↓as_38, ↓as_40, ↓as_41, ↓as_42, ↓as_43, ↓as_44, ↓as_46, ↓as_47, ↓as_48, ↓as_50, ↓as_51, ↓as_52, ↓as_53, ↓as_54, ↓gi_0, ↓pi_0, ↓ck_0, ↓gi_1, ↓pi_1, ↓ck_1, ↓gi_3, ↓pi_3, ↓ck_3, ↓gi_4, ↓pi_4, ↓ck_4, ↓gi_7, ↓pi_7, ↓ck_7, ↓gi_10, ↓pi_10, ↓ck_10, ↓gi_34, ↓pi_34, ↓ck_34, ↓gi_39, ↓pi_39, ↓ck_39, ↓gi_45, ↓pi_45, ↓ck_45, ↓gi_49, ↓pi_49, ↓ck_49, j0, j1, j2, j3, j4, j5, j6, j7, j8, j9, j10, j11, j12, j13, j14, j15, j16, j17, j18, j19, j20, j21, j24, j25, j30, j31, j32, j36, j41, j48, j49, j57, j59, j60, j63, j64, j81, j97, j99, j100, j122, j255, j300, j400, j500, j999, j1000, j24000, j_add, j_sub, j_mul, j_neg, j_lt, j_le, j_eq, nI_sI, nR_sI, nN_sI, nI_sR, nR_sR, nN_sR, Int.toNat_natCast, true_and, and_true, false_and, and_false, if_true, if_false, reduceIte, Nat.reduceEqDiff, Option.some.injEq, Prod.mk.injEq, k_of, k_add, k_sub, k_mul, k_neg, lg_ltJ, lg_gtJ, lg_eqJ, b_0, b_J0, b_J1, b_retZ, k0, k1, k2, k3, k10, k19, k20, k30, k40, k999, ↓dayC_b, ↓gsrC_b, ↓tenC_b, ↓zooC_b, ↓isqC_b, Int.add_sub_cancel, not_true, not_false_eq_true, jn1, Bool.false_eq_true, Bool.true_eq_false, reduceCtorEq, q7, q8, h7, ej, e1, show ¬ ((5 : Int) = -1) by omega, show ¬ ((5 : Int) = 0) by omega, show ¬ ((5 : Int) = 1) by omega, show ¬ ((5 : Int) = 2) by omega, show ¬ ((5 : Int) = 3) by omega, show ¬ ((5 : Int) = 4) by omega, show (0 : Int) < 1 by omega, show (0 : Int) + 1 = 1 from rfl]
  · rw [if_neg c]
    have fr : Fr P6q (sf u (if tkn L y p = 3 then 2 else 1) (stk L y p)) (sI (sI (sf u (if tkn L y p = 3 then 2 else 1) (stk L y p)) 4 6 (J x)) 3 8 (J 1)) := (Fr.rfl.sI (by unfold P6q; omega)).sI (by unfold P6q; omega)
    refine ⟨_, ?_, (sf_fr.trans (Fr.mono fr fun a k h => by unfold P6q at h; unfold P6c; omega)), rel_ft h (by split <;> omega) fr⟩
    have hS2 : SH (sf u (if tkn L y p = 3 then 2 else 1) (stk L y p)) := sf_fr.SH hS
    have q82 : mI (sf u (if tkn L y p = 3 then 2 else 1) (stk L y p)) 3 8 = J 0 := by
      unfold sf
      rw [mI_sI, if_neg (by omega), mI_sI, if_neg (by omega), mI_sI, if_neg (by omega), q8, ej]
    simp (disch := first | (simp only [SH_sIi, SH_sLi]; assumption) | assumption | (simp only [nN_sI, nN_sL, nN_sR]; assumption) | omega) only [↓s_nm, ↓s_bnd2, ↓s_some, ↓s_suml, ↓s_sumr, ↓s_nz, ↓gi_q, ↓pi_q, ↓ck_q, ↓gi_gs, ↓gr_gs, ↓g_0_0, ↓g_0_1, ↓g_0_2, ↓g_0_3, ↓g_0_4, ↓g_0_5, ↓g_0_6, ↓g_0_7, ↓g_1_0, ↓g_3_0, ↓g_3_3, ↓g_4_0, ↓g_4_1, ↓g_7_0, ↓g_7_1, ↓g_10_0, ↓g_10_1, ↓g_10_2, ↓g_34_0, ↓g_34_1, ↓g_34_2, ↓g_34_3, ↓g_34_4, ↓g_34_5, ↓g_39_2, ↓g_39_3, ↓g_39_4, ↓g_39_5, ↓g_39_6, ↓g_39_7, ↓g_39_8, ↓g_39_9, ↓g_45_0, ↓g_45_1, ↓g_45_2, ↓g_45_4, ↓g_49_0, ↓g_49_1, ↓g_49_2, ↓g_49_3, ↓g_49_4, ↓g_49_5, ↓g_49_6, ↓al_2, ↓al_5, ↓al_6, ↓al_8, ↓al_9, ↓al_11, ↓al_12, ↓al_13, ↓al_35, ↓al_36, ↓al_37, ↓al_38, ↓al_40, ↓al_41, ↓al_42, ↓al_43, ↓al_44, ↓al_46, ↓al_47, ↓al_48, ↓al_50, ↓al_51, ↓al_52, ↓al_53, ↓al_54, ↓as_2, ↓as_5, ↓as_6, ↓as_8, ↓as_9, ↓as_12, ↓as_13, ↓as_35, ↓as_36, ↓as_37, ↓as_38, ↓as_40, ↓as_41, ↓as_42, ↓as_43, ↓as_44, ↓as_46, ↓as_47, ↓as_48, ↓as_50, ↓as_51, ↓as_52, ↓as_53, ↓as_54, ↓gi_0, ↓pi_0, ↓ck_0, ↓gi_1, ↓pi_1, ↓ck_1, ↓gi_3, ↓pi_3, ↓ck_3, ↓gi_4, ↓pi_4, ↓ck_4, ↓gi_7, ↓pi_7, ↓ck_7, ↓gi_10, ↓pi_10, ↓ck_10, ↓gi_34, ↓pi_34, ↓ck_34, ↓gi_39, ↓pi_39, ↓ck_39, ↓gi_45, ↓pi_45, ↓ck_45, ↓gi_49, ↓pi_49, ↓ck_49, j0, j1, j2, j3, j4, j5, j6, j7, j8, j9, j10, j11, j12, j13, j14, j15, j16, j17, j18, j19, j20, j21, j24, j25, j30, j31, j32, j36, j41, j48, j49, j57, j59, j60, j63, j64, j81, j97, j99, j100, j122, j255, j300, j400, j500, j999, j1000, j24000, j_add, j_sub, j_mul, j_neg, j_lt, j_le, j_eq, nI_sI, nR_sI, nN_sI, nI_sR, nR_sR, nN_sR, Int.toNat_natCast, true_and, and_true, false_and, and_false, if_true, if_false, reduceIte, Nat.reduceEqDiff, Option.some.injEq, Prod.mk.injEq, k_of, k_add, k_sub, k_mul, k_neg, lg_ltJ, lg_gtJ, lg_eqJ, b_0, b_J0, b_J1, b_retZ, k0, k1, k2, k3, k10, k19, k20, k30, k40, k999, ↓dayC_b, ↓gsrC_b, ↓tenC_b, ↓zooC_b, ↓isqC_b, Int.add_sub_cancel, not_true, not_false_eq_true, jn1, Bool.false_eq_true, Bool.true_eq_false, reduceCtorEq, q7, q8, h7, ej, e1, q82, show ¬ ((5 : Int) = -1) by omega, show ¬ ((5 : Int) = 0) by omega, show ¬ ((5 : Int) = 1) by omega, show ¬ ((5 : Int) = 2) by omega, show ¬ ((5 : Int) = 3) by omega, show ¬ ((5 : Int) = 4) by omega, show (0 : Int) < 1 by omega, show (0 : Int) + 1 = 1 from rfl]
theorem taC_2 (h : TkC L y p u) (hw : Wf L p S) (h11 : S 3 11 = 0) (h7 : S 3 7 = 2) (ej : S 3 8 = 0) (R : RelC L y (nxt L y p) S u) : ∃ v, fX6_takeToken 3 u = some v ∧ Fr P6c u v ∧ RelC L y (nxt L y p) (stp L y p S) v := by
  have hS := h.2.1.1
  have hk0 : S 3 1 = 0 := hw.2.1 h11
  have r7 := R.2.2.2.2.2.2 hk0
  have q7 := r7.1
  have q8 := r7.2.1
  have e1 : fX6_takeChoice 3 (some 1000006) (some 1000007) u = some (J (if isw L y p 7 then 1 else 0), if isw L y p 6 ∨ isw L y p 7 then u else sf u 1 (stk L y p)) := tchC (a := 6) (c := 7) h (by omega) (by omega)
  obtain ⟨x, hx⟩ : ∃ x : Int, x = if isw L y p 7 then 1 else 0 := ⟨_, rfl⟩
  have hst : stp L y p S = if isw L y p 6 ∨ isw L y p 7 then ud (ud S 55 0 x) 3 8 1 else ft S 1 (stk L y p) := by
    unfold stp
    rw [if_neg (fun x => x h11), h7, ej, if_neg (by omega), if_pos (show (0 : Int) < nar 2 by show (0 : Int) < 1; omega), hx]
    have ea : af L y p 2 0 = if isw L y p 6 ∨ isw L y p 7 then 0 else 1 := rfl
    rw [ea]
    by_cases d : isw L y p 6 ∨ isw L y p 7
    · rw [if_pos d, if_pos rfl, if_pos d]
      rfl
    · rw [if_neg d, if_neg (show ¬ ((1 : Int) = 0) by omega), if_neg d]
  rw [hst]
  rw [← hx] at e1
  unfold fX6_takeToken fX6_takeArgument fX6_tokensBehind
  by_cases c : isw L y p 6 ∨ isw L y p 7
  · rw [if_pos c]
    rw [if_pos c] at e1
    obtain ⟨f1, g1⟩ := rel_put (A := 55) (B' := 0) (a := 4) (c := 2) (v := x) (z := 1) R hk0 (Or.inl ⟨rfl, by omega, rfl, rfl⟩)
    refine ⟨_, ?_, f1, g1⟩
    simp (disch := first | (simp only [SH_sIi, SH_sLi]; assumption) | assumption | (simp only [nN_sI, nN_sL, nN_sR]; assumption) | omega) only [↓s_nm, ↓s_bnd2, ↓s_some, ↓s_suml, ↓s_sumr, ↓s_nz, ↓gi_q, ↓pi_q, ↓ck_q, ↓gi_gs, ↓gr_gs, ↓g_0_0, ↓g_0_1, ↓g_0_2, ↓g_0_3, ↓g_0_4, ↓g_0_5, ↓g_0_6, ↓g_0_7, ↓g_1_0, ↓g_3_0, ↓g_3_3, ↓g_4_0, ↓g_4_1, ↓g_7_0, ↓g_7_1, ↓g_10_0, ↓g_10_1, ↓g_10_2, ↓g_34_0, ↓g_34_1, ↓g_34_2, ↓g_34_3, ↓g_34_4, ↓g_34_5, ↓g_39_2, ↓g_39_3, ↓g_39_4, ↓g_39_5, ↓g_39_6, ↓g_39_7, ↓g_39_8, ↓g_39_9, ↓g_45_0, ↓g_45_1, ↓g_45_2, ↓g_45_4, ↓g_49_0, ↓g_49_1, ↓g_49_2, ↓g_49_3, ↓g_49_4, ↓g_49_5, ↓g_49_6, ↓al_2, ↓al_5, ↓al_6, ↓al_8, ↓al_9, ↓al_11, ↓al_12, ↓al_13, ↓al_35, ↓al_36, ↓al_37, ↓al_38, ↓al_40, ↓al_41, ↓al_42, ↓al_43, ↓al_44, ↓al_46, ↓al_47, ↓al_48, ↓al_50, ↓al_51, ↓al_52, ↓al_53, ↓al_54, ↓as_2, ↓as_5, ↓as_6, ↓as_8, ↓as_9, ↓as_12, ↓as_13, ↓as_35, ↓as_36, ↓as_37, ↓as_38, ↓as_40, ↓as_41, ↓as_42, ↓as_43, ↓as_44, ↓as_46, ↓as_47, ↓as_48, ↓as_50, ↓as_51, ↓as_52, ↓as_53, ↓as_54, ↓gi_0, ↓pi_0, ↓ck_0, ↓gi_1, ↓pi_1, ↓ck_1, ↓gi_3, ↓pi_3, ↓ck_3, ↓gi_4, ↓pi_4, ↓ck_4, ↓gi_7, ↓pi_7, ↓ck_7, ↓gi_10, ↓pi_10, ↓ck_10, ↓gi_34, ↓pi_34, ↓ck_34, ↓gi_39, ↓pi_39, ↓ck_39, ↓gi_45, ↓pi_45, ↓ck_45, ↓gi_49, ↓pi_49, ↓ck_49, j0, j1, j2, j3, j4, j5, j6, j7, j8, j9, j10, j11, j12, j13, j14, j15, j16, j17, j18, j19, j20, j21, j24, j25, j30, j31, j32, j36, j41, j48, j49, j57, j59, j60, j63, j64, j81, j97, j99, j100, j122, j255, j300, j400, j500, j999, j1000, j24000, j_add, j_sub, j_mul, j_neg, j_lt, j_le, j_eq, nI_sI, nR_sI, nN_sI, nI_sR, nR_sR, nN_sR, Int.toNat_natCast, true_and, and_true, false_and, and_false, if_true, if_false, reduceIte, Nat.reduceEqDiff, Option.some.injEq, Prod.mk.injEq, k_of, k_add, k_sub, k_mul, k_neg, lg_ltJ, lg_gtJ, lg_eqJ, b_0, b_J0, b_J1, b_retZ, k0, k1, k2, k3, k10, k19, k20, k30, k40, k999, ↓dayC_b, ↓gsrC_b, ↓tenC_b, ↓zooC_b, ↓isqC_b, Int.add_sub_cancel, not_true, not_false_eq_true, jn1, Bool.false_eq_true, Bool.true_eq_false, reduceCtorEq, q7, q8, h7, ej, e1, show ¬ ((2 : Int) = -1) by omega, show ¬ ((2 : Int) = 0) by omega, show ¬ ((2 : Int) = 1) by omega, show (0 : Int) < 1 by omega, show (0 : Int) + 1 = 1 from rfl]
  · rw [if_neg c]
    rw [if_neg c] at e1
    have fr : Fr P6q (sf u 1 (stk L y p)) (sI (sI (sf u 1 (stk L y p)) 4 2 (J x)) 3 8 (J 1)) := (Fr.rfl.sI (by unfold P6q; omega)).sI (by unfold P6q; omega)
    refine ⟨_, ?_, (sf_fr.trans (Fr.mono fr fun a k h => by unfold P6q at h; unfold P6c; omega)), rel_ft h (by omega) fr⟩
    have hS2 : SH (sf u 1 (stk L y p)) := sf_fr.SH hS
    have q82 : mI (sf u 1 (stk L y p)) 3 8 = J 0 := by
      unfold sf
      rw [mI_sI, if_neg (by omega), mI_sI, if_neg (by omega), mI_sI, if_neg (by omega), q8, ej]
    simp (disch := first | (simp only [SH_sIi, SH_sLi]; assumption) | assumption | (simp only [nN_sI, nN_sL, nN_sR]; assumption) | omega) only [↓s_nm, ↓s_bnd2, ↓s_some, ↓s_suml, ↓s_sumr, ↓s_nz, ↓gi_q, ↓pi_q, ↓ck_q, ↓gi_gs, ↓gr_gs, ↓g_0_0, ↓g_0_1, ↓g_0_2, ↓g_0_3, ↓g_0_4, ↓g_0_5, ↓g_0_6, ↓g_0_7, ↓g_1_0, ↓g_3_0, ↓g_3_3, ↓g_4_0, ↓g_4_1, ↓g_7_0, ↓g_7_1, ↓g_10_0, ↓g_10_1, ↓g_10_2, ↓g_34_0, ↓g_34_1, ↓g_34_2, ↓g_34_3, ↓g_34_4, ↓g_34_5, ↓g_39_2, ↓g_39_3, ↓g_39_4, ↓g_39_5, ↓g_39_6, ↓g_39_7, ↓g_39_8, ↓g_39_9, ↓g_45_0, ↓g_45_1, ↓g_45_2, ↓g_45_4, ↓g_49_0, ↓g_49_1, ↓g_49_2, ↓g_49_3, ↓g_49_4, ↓g_49_5, ↓g_49_6, ↓al_2, ↓al_5, ↓al_6, ↓al_8, ↓al_9, ↓al_11, ↓al_12, ↓al_13, ↓al_35, ↓al_36, ↓al_37, ↓al_38, ↓al_40, ↓al_41, ↓al_42, ↓al_43, ↓al_44, ↓al_46, ↓al_47, ↓al_48, ↓al_50, ↓al_51, ↓al_52, ↓al_53, ↓al_54, ↓as_2, ↓as_5, ↓as_6, ↓as_8, ↓as_9, ↓as_12, ↓as_13, ↓as_35, ↓as_36, ↓as_37, ↓as_38, ↓as_40, ↓as_41, ↓as_42, ↓as_43, ↓as_44, ↓as_46, ↓as_47, ↓as_48, ↓as_50, ↓as_51, ↓as_52, ↓as_53, ↓as_54, ↓gi_0, ↓pi_0, ↓ck_0, ↓gi_1, ↓pi_1, ↓ck_1, ↓gi_3, ↓pi_3, ↓ck_3, ↓gi_4, ↓pi_4, ↓ck_4, ↓gi_7, ↓pi_7, ↓ck_7, ↓gi_10, ↓pi_10, ↓ck_10, ↓gi_34, ↓pi_34, ↓ck_34, ↓gi_39, ↓pi_39, ↓ck_39, ↓gi_45, ↓pi_45, ↓ck_45, ↓gi_49, ↓pi_49, ↓ck_49, j0, j1, j2, j3, j4, j5, j6, j7, j8, j9, j10, j11, j12, j13, j14, j15, j16, j17, j18, j19, j20, j21, j24, j25, j30, j31, j32, j36, j41, j48, j49, j57, j59, j60, j63, j64, j81, j97, j99, j100, j122, j255, j300, j400, j500, j999, j1000, j24000, j_add, j_sub, j_mul, j_neg, j_lt, j_le, j_eq, nI_sI, nR_sI, nN_sI, nI_sR, nR_sR, nN_sR, Int.toNat_natCast, true_and, and_true, false_and, and_false, if_true, if_false, reduceIte, Nat.reduceEqDiff, Option.some.injEq, Prod.mk.injEq, k_of, k_add, k_sub, k_mul, k_neg, lg_ltJ, lg_gtJ, lg_eqJ, b_0, b_J0, b_J1, b_retZ, k0, k1, k2, k3, k10, k19, k20, k30, k40, k999, ↓dayC_b, ↓gsrC_b, ↓tenC_b, ↓zooC_b, ↓isqC_b, Int.add_sub_cancel, not_true, not_false_eq_true, jn1, Bool.false_eq_true, Bool.true_eq_false, reduceCtorEq, q7, q8, h7, ej, e1, q82, show ¬ ((2 : Int) = -1) by omega, show ¬ ((2 : Int) = 0) by omega, show ¬ ((2 : Int) = 1) by omega, show (0 : Int) < 1 by omega, show (0 : Int) + 1 = 1 from rfl]
theorem taC_3 (h : TkC L y p u) (hw : Wf L p S) (h11 : S 3 11 = 0) (h7 : S 3 7 = 3) (ej : S 3 8 = 0) (R : RelC L y (nxt L y p) S u) : ∃ v, fX6_takeToken 3 u = some v ∧ Fr P6c u v ∧ RelC L y (nxt L y p) (stp L y p S) v := by
  have hS := h.2.1.1
  have hk0 : S 3 1 = 0 := hw.2.1 h11
  have r7 := R.2.2.2.2.2.2 hk0
  have q7 := r7.1
  have q8 := r7.2.1
  have e1 : fX6_takeChoice 3 (some 1000008) (some 1000009) u = some (J (if isw L y p 9 then 1 else 0), if isw L y p 8 ∨ isw L y p 9 then u else sf u 1 (stk L y p)) := tchC (a := 8) (c := 9) h (by omega) (by omega)
  obtain ⟨x, hx⟩ : ∃ x : Int, x = if isw L y p 9 then 1 else 0 := ⟨_, rfl⟩
  have hst : stp L y p S = if isw L y p 8 ∨ isw L y p 9 then ud (ud S 55 1 x) 3 8 1 else ft S 1 (stk L y p) := by
    unfold stp
    rw [if_neg (fun x => x h11), h7, ej, if_neg (by omega), if_pos (show (0 : Int) < nar 3 by show (0 : Int) < 1; omega), hx]
    have ea : af L y p 3 0 = if isw L y p 8 ∨ isw L y p 9 then 0 else 1 := rfl
    rw [ea]
    by_cases d : isw L y p 8 ∨ isw L y p 9
    · rw [if_pos d, if_pos rfl, if_pos d]
      rfl
    · rw [if_neg d, if_neg (show ¬ ((1 : Int) = 0) by omega), if_neg d]
  rw [hst]
  rw [← hx] at e1
  unfold fX6_takeToken fX6_takeArgument fX6_tokensBehind
  by_cases c : isw L y p 8 ∨ isw L y p 9
  · rw [if_pos c]
    rw [if_pos c] at e1
    obtain ⟨f1, g1⟩ := rel_put (A := 55) (B' := 1) (a := 4) (c := 3) (v := x) (z := 1) R hk0 (Or.inl ⟨rfl, by omega, rfl, rfl⟩)
    refine ⟨_, ?_, f1, g1⟩
    simp (disch := first | (simp only [SH_sIi, SH_sLi]; assumption) | assumption | (simp only [nN_sI, nN_sL, nN_sR]; assumption) | omega) only [↓s_nm, ↓s_bnd2, ↓s_some, ↓s_suml, ↓s_sumr, ↓s_nz, ↓gi_q, ↓pi_q, ↓ck_q, ↓gi_gs, ↓gr_gs, ↓g_0_0, ↓g_0_1, ↓g_0_2, ↓g_0_3, ↓g_0_4, ↓g_0_5, ↓g_0_6, ↓g_0_7, ↓g_1_0, ↓g_3_0, ↓g_3_3, ↓g_4_0, ↓g_4_1, ↓g_7_0, ↓g_7_1, ↓g_10_0, ↓g_10_1, ↓g_10_2, ↓g_34_0, ↓g_34_1, ↓g_34_2, ↓g_34_3, ↓g_34_4, ↓g_34_5, ↓g_39_2, ↓g_39_3, ↓g_39_4, ↓g_39_5, ↓g_39_6, ↓g_39_7, ↓g_39_8, ↓g_39_9, ↓g_45_0, ↓g_45_1, ↓g_45_2, ↓g_45_4, ↓g_49_0, ↓g_49_1, ↓g_49_2, ↓g_49_3, ↓g_49_4, ↓g_49_5, ↓g_49_6, ↓al_2, ↓al_5, ↓al_6, ↓al_8, ↓al_9, ↓al_11, ↓al_12, ↓al_13, ↓al_35, ↓al_36, ↓al_37, ↓al_38, ↓al_40, ↓al_41, ↓al_42, ↓al_43, ↓al_44, ↓al_46, ↓al_47, ↓al_48, ↓al_50, ↓al_51, ↓al_52, ↓al_53, ↓al_54, ↓as_2, ↓as_5, ↓as_6, ↓as_8, ↓as_9, ↓as_12, ↓as_13, ↓as_35, ↓as_36, ↓as_37, ↓as_38, ↓as_40, ↓as_41, ↓as_42, ↓as_43, ↓as_44, ↓as_46, ↓as_47, ↓as_48, ↓as_50, ↓as_51, ↓as_52, ↓as_53, ↓as_54, ↓gi_0, ↓pi_0, ↓ck_0, ↓gi_1, ↓pi_1, ↓ck_1, ↓gi_3, ↓pi_3, ↓ck_3, ↓gi_4, ↓pi_4, ↓ck_4, ↓gi_7, ↓pi_7, ↓ck_7, ↓gi_10, ↓pi_10, ↓ck_10, ↓gi_34, ↓pi_34, ↓ck_34, ↓gi_39, ↓pi_39, ↓ck_39, ↓gi_45, ↓pi_45, ↓ck_45, ↓gi_49, ↓pi_49, ↓ck_49, j0, j1, j2, j3, j4, j5, j6, j7, j8, j9, j10, j11, j12, j13, j14, j15, j16, j17, j18, j19, j20, j21, j24, j25, j30, j31, j32, j36, j41, j48, j49, j57, j59, j60, j63, j64, j81, j97, j99, j100, j122, j255, j300, j400, j500, j999, j1000, j24000, j_add, j_sub, j_mul, j_neg, j_lt, j_le, j_eq, nI_sI, nR_sI, nN_sI, nI_sR, nR_sR, nN_sR, Int.toNat_natCast, true_and, and_true, false_and, and_false, if_true, if_false, reduceIte, Nat.reduceEqDiff, Option.some.injEq, Prod.mk.injEq, k_of, k_add, k_sub, k_mul, k_neg, lg_ltJ, lg_gtJ, lg_eqJ, b_0, b_J0, b_J1, b_retZ, k0, k1, k2, k3, k10, k19, k20, k30, k40, k999, ↓dayC_b, ↓gsrC_b, ↓tenC_b, ↓zooC_b, ↓isqC_b, Int.add_sub_cancel, not_true, not_false_eq_true, jn1, Bool.false_eq_true, Bool.true_eq_false, reduceCtorEq, q7, q8, h7, ej, e1, show ¬ ((3 : Int) = -1) by omega, show ¬ ((3 : Int) = 0) by omega, show ¬ ((3 : Int) = 1) by omega, show ¬ ((3 : Int) = 2) by omega, show (0 : Int) < 1 by omega, show (0 : Int) + 1 = 1 from rfl]
  · rw [if_neg c]
    rw [if_neg c] at e1
    have fr : Fr P6q (sf u 1 (stk L y p)) (sI (sI (sf u 1 (stk L y p)) 4 3 (J x)) 3 8 (J 1)) := (Fr.rfl.sI (by unfold P6q; omega)).sI (by unfold P6q; omega)
    refine ⟨_, ?_, (sf_fr.trans (Fr.mono fr fun a k h => by unfold P6q at h; unfold P6c; omega)), rel_ft h (by omega) fr⟩
    have hS2 : SH (sf u 1 (stk L y p)) := sf_fr.SH hS
    have q82 : mI (sf u 1 (stk L y p)) 3 8 = J 0 := by
      unfold sf
      rw [mI_sI, if_neg (by omega), mI_sI, if_neg (by omega), mI_sI, if_neg (by omega), q8, ej]
    simp (disch := first | (simp only [SH_sIi, SH_sLi]; assumption) | assumption | (simp only [nN_sI, nN_sL, nN_sR]; assumption) | omega) only [↓s_nm, ↓s_bnd2, ↓s_some, ↓s_suml, ↓s_sumr, ↓s_nz, ↓gi_q, ↓pi_q, ↓ck_q, ↓gi_gs, ↓gr_gs, ↓g_0_0, ↓g_0_1, ↓g_0_2, ↓g_0_3, ↓g_0_4, ↓g_0_5, ↓g_0_6, ↓g_0_7, ↓g_1_0, ↓g_3_0, ↓g_3_3, ↓g_4_0, ↓g_4_1, ↓g_7_0, ↓g_7_1, ↓g_10_0, ↓g_10_1, ↓g_10_2, ↓g_34_0, ↓g_34_1, ↓g_34_2, ↓g_34_3, ↓g_34_4, ↓g_34_5, ↓g_39_2, ↓g_39_3, ↓g_39_4, ↓g_39_5, ↓g_39_6, ↓g_39_7, ↓g_39_8, ↓g_39_9, ↓g_45_0, ↓g_45_1, ↓g_45_2, ↓g_45_4, ↓g_49_0, ↓g_49_1, ↓g_49_2, ↓g_49_3, ↓g_49_4, ↓g_49_5, ↓g_49_6, ↓al_2, ↓al_5, ↓al_6, ↓al_8, ↓al_9, ↓al_11, ↓al_12, ↓al_13, ↓al_35, ↓al_36, ↓al_37, ↓al_38, ↓al_40, ↓al_41, ↓al_42, ↓al_43, ↓al_44, ↓al_46, ↓al_47, ↓al_48, ↓al_50, ↓al_51, ↓al_52, ↓al_53, ↓al_54, ↓as_2, ↓as_5, ↓as_6, ↓as_8, ↓as_9, ↓as_12, ↓as_13, ↓as_35, ↓as_36, ↓as_37, ↓as_38, ↓as_40, ↓as_41, ↓as_42, ↓as_43, ↓as_44, ↓as_46, ↓as_47, ↓as_48, ↓as_50, ↓as_51, ↓as_52, ↓as_53, ↓as_54, ↓gi_0, ↓pi_0, ↓ck_0, ↓gi_1, ↓pi_1, ↓ck_1, ↓gi_3, ↓pi_3, ↓ck_3, ↓gi_4, ↓pi_4, ↓ck_4, ↓gi_7, ↓pi_7, ↓ck_7, ↓gi_10, ↓pi_10, ↓ck_10, ↓gi_34, ↓pi_34, ↓ck_34, ↓gi_39, ↓pi_39, ↓ck_39, ↓gi_45, ↓pi_45, ↓ck_45, ↓gi_49, ↓pi_49, ↓ck_49, j0, j1, j2, j3, j4, j5, j6, j7, j8, j9, j10, j11, j12, j13, j14, j15, j16, j17, j18, j19, j20, j21, j24, j25, j30, j31, j32, j36, j41, j48, j49, j57, j59, j60, j63, j64, j81, j97, j99, j100, j122, j255, j300, j400, j500, j999, j1000, j24000, j_add, j_sub, j_mul, j_neg, j_lt, j_le, j_eq, nI_sI, nR_sI, nN_sI, nI_sR, nR_sR, nN_sR, Int.toNat_natCast, true_and, and_true, false_and, and_false, if_true, if_false, reduceIte, Nat.reduceEqDiff, Option.some.injEq, Prod.mk.injEq, k_of, k_add, k_sub, k_mul, k_neg, lg_ltJ, lg_gtJ, lg_eqJ, b_0, b_J0, b_J1, b_retZ, k0, k1, k2, k3, k10, k19, k20, k30, k40, k999, ↓dayC_b, ↓gsrC_b, ↓tenC_b, ↓zooC_b, ↓isqC_b, Int.add_sub_cancel, not_true, not_false_eq_true, jn1, Bool.false_eq_true, Bool.true_eq_false, reduceCtorEq, q7, q8, h7, ej, e1, q82, show ¬ ((3 : Int) = -1) by omega, show ¬ ((3 : Int) = 0) by omega, show ¬ ((3 : Int) = 1) by omega, show ¬ ((3 : Int) = 2) by omega, show (0 : Int) < 1 by omega, show (0 : Int) + 1 = 1 from rfl]
end ARGC
