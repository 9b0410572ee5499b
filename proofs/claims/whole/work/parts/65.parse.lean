/-! rules: one machine, a step a token -/
def ud (S : Sp) (a k : Nat) (v : Int) : Sp := fun b j => if b = a ∧ j = k then v else S b j
def nar (k : Int) : Int := if k = 0 ∨ k = 1 then 11 else if k = 4 then 2 else 1
def nlo (k : Int) : Int := if k = 0 ∨ k = 1 then 0 else 1
def nhi (k j : Int) : Int := if k = 0 ∨ k = 1 then 1000 else if k = 4 ∧ j = 0 then 30 else 99
def vl (L : Nat) (y : Nat → Int) (p : Nat) : Int := dv y (stk L y p) (nxt L y p - stk L y p)
def af (L : Nat) (y : Nat → Int) (p : Nat) (k j : Int) : Int := if k = 2 then (if isw L y p 6 ∨ isw L y p 7 then 0 else 1) else if k = 3 then (if isw L y p 8 ∨ isw L y p 9 then 0 else 1) else if tkn L y p = 3 then (if nlo k ≤ vl L y p ∧ vl L y p ≤ nhi k j then 0 else 2) else 1
def av (L : Nat) (y : Nat → Int) (p : Nat) (k : Int) : Int := if k = 2 then (if isw L y p 7 then 1 else 0) else if k = 3 then (if isw L y p 9 then 1 else 0) else vl L y p
def put (S : Sp) (k j v : Int) : Sp := if k = 0 then ud S 56 j.toNat v else if k = 1 then ud S 57 j.toNat v else if k = 2 then ud S 55 0 v else if k = 3 then ud S 55 1 v else if k = 4 then (if j = 0 then ud S 55 2 v else ud S 55 3 v) else ud S 55 4 v
def ft (S : Sp) (f s : Int) : Sp := ud (ud (ud S 3 1 f) 3 2 s) 3 11 1
def stp (L : Nat) (y : Nat → Int) (p : Nat) (S : Sp) : Sp :=
  if S 3 11 ≠ 0 then S
  else if S 3 7 = -1 then
    (if tkn L y p = 0 then ud S 3 11 1
    else if key L y p = -1 then ft S 1 (stk L y p)
    else if S 62 (key L y p).toNat = 1 then ft S 3 (stk L y p)
    else ud (ud (ud S 62 (key L y p).toNat 1) 3 7 (key L y p)) 3 8 0)
  else if S 3 8 < nar (S 3 7) then
    (if af L y p (S 3 7) (S 3 8) = 0 then ud (put S (S 3 7) (S 3 8) (av L y p (S 3 7))) 3 8 (S 3 8 + 1)
    else ft S (af L y p (S 3 7) (S 3 8)) (stk L y p))
  else if tkn L y p = 4 then ud (ud S 3 9 (S 3 9 + 1)) 3 7 (-1)
  else ft S 1 (stk L y p)
def itA (L : Nat) (y : Nat → Int) : Nat → Nat → Sp → Sp
  | 0, _, S => S
  | n + 1, p, S => itA L y n (nxt L y p) (stp L y p S)
section PARSE
variable {L p i : Nat} {y : Nat → Int} {u u' : Mem} {β : Type} {P : Nat → Nat → Prop} {b lo hi : Int} {S : Sp}
theorem stp_over (h : S 3 11 ≠ 0) : stp L y p S = S := by unfold stp; rw [if_pos h]
theorem itA_over (h : S 3 11 ≠ 0) : ∀ n p, itA L y n p S = S := by
  intro n
  induction n with
  | zero => intro p; rfl
  | succ n ih => intro p; rw [itA, stp_over h]; exact ih _
theorem kb_3 (h : kb b = 3) : 48 ≤ b ∧ b ≤ 57 := by
  unfold kb at h
  (repeat' split at h) <;> omega
theorem dig (h : kd L y p = 3) (x : Nat) (h1 : stk L y p ≤ x) (h2 : x < nxt L y p) : 48 ≤ y x ∧ y x ≤ 57 := by
  have hl := kd_lt (L := L) (y := y) (p := p) (by omega)
  have e : kb (y (stk L y p)) = 3 := by
    have h' := h
    unfold kd kat at h'
    rw [if_pos hl] at h'
    exact h'
  by_cases hx : x = stk L y p
  · rw [hx]; exact kb_3 e
  · unfold nxt at h2
    rw [if_neg (by omega), if_pos (Or.inr h)] at h2
    have := fst_ne _ _ x (by omega) h2
    refine kb_3 ?_
    by_cases hh : kb (y x) = 3
    · exact hh
    · exact absurd (decide_eq_true (by rw [h]; exact hh)) this
theorem dv_rng (s m : Nat) (h : ∀ i, i < m → 48 ≤ y (s + i) ∧ y (s + i) ≤ 57) (hm : m ≤ 4) : 0 ≤ dv y s m ∧ dv y s m ≤ 9999 := by
  have e0 : dv y s 0 = 0 := rfl
  have e1 : dv y s 1 = 10 * dv y s 0 + y (s + 0) - 48 := rfl
  have e2 : dv y s 2 = 10 * dv y s 1 + y (s + 1) - 48 := rfl
  have e3 : dv y s 3 = 10 * dv y s 2 + y (s + 2) - 48 := rfl
  have e4 : dv y s 4 = 10 * dv y s 3 + y (s + 3) - 48 := rfl
  have : m = 0 ∨ m = 1 ∨ m = 2 ∨ m = 3 ∨ m = 4 := by omega
  rcases this with rfl | rfl | rfl | rfl | rfl
  · omega
  · have := h 0 (by omega); omega
  · have := h 0 (by omega); have := h 1 (by omega); omega
  · have := h 0 (by omega); have := h 1 (by omega); have := h 2 (by omega); omega
  · have := h 0 (by omega); have := h 1 (by omega); have := h 2 (by omega); have := h 3 (by omega); omega
theorem tkn_3 (h : tkn L y p = 3) : kd L y p = 3 ∧ (nxt L y p : Int) - stk L y p ≤ 4 := by
  unfold tkn at h
  by_cases c : kd L y p = 3 ∧ 4 < (nxt L y p : Int) - stk L y p
  · rw [if_pos c] at h; omega
  · rw [if_neg c] at h
    exact ⟨h, by omega⟩
theorem vl_rng (hp : p ≤ L) (h : tkn L y p = 3) : 0 ≤ vl L y p ∧ vl L y p ≤ 9999 := by
  have h1 := tkn_3 h
  have h2 := nxt_le (y := y) hp
  exact dv_rng _ _ (fun i hi => dig h1.1 _ (by omega) (by omega)) (by omega)
/-- the class's setFault -/
def sf (u : Mem) (f s : Int) : Mem := sI (sI (sI u 3 1 (J f)) 3 2 (J s)) 3 11 (J 1)
theorem sfC (h : TkC L y p u) (h1 : 0 ≤ b) (h2 : b ≤ 9) : fX6_setFault 3 (J b) u = some (sf u b (stk L y p)) := by
  obtain ⟨hp, ⟨hS, hL, -, -, -⟩, h4, h5, h6⟩ := h
  have hs := stk_le (y := y) hp
  unfold fX6_setFault sf
  simp (disch := first | (simp only [SH_sIi, SH_sLi]; assumption) | assumption | (simp only [nN_sI, nN_sL, nN_sR]; assumption) | omega) only [↓s_nm, ↓s_bnd2, ↓s_some, ↓s_suml, ↓s_sumr, ↓s_nz, ↓gi_q, ↓pi_q, ↓ck_q, ↓gi_gs, ↓gr_gs, ↓g_0_0, ↓g_0_1, ↓g_0_2, ↓g_0_3, ↓g_0_4, ↓g_0_5, ↓g_0_6, ↓g_0_7, ↓g_1_0, ↓g_3_0, ↓g_3_3, ↓g_4_0, ↓g_4_1, ↓g_7_0, ↓g_7_1, ↓g_10_0, ↓g_10_1, ↓g_10_2, ↓g_34_0, ↓g_34_1, ↓g_34_2, ↓g_34_3, ↓g_34_4, ↓g_34_5, ↓g_39_2, ↓g_39_3, ↓g_39_4, ↓g_39_5, ↓g_39_6, ↓g_39_7, ↓g_39_8, ↓g_39_9, ↓g_45_0, ↓g_45_1, ↓g_45_2, ↓g_45_4, ↓g_49_0, ↓g_49_1, ↓g_49_2, ↓g_49_3, ↓g_49_4, ↓g_49_5, ↓g_49_6, ↓al_2, ↓al_5, ↓al_6, ↓al_8, ↓al_9, ↓al_11, ↓al_12, ↓al_13, ↓al_35, ↓al_36, ↓al_37, ↓al_38, ↓al_40, ↓al_41, ↓al_42, ↓al_43, ↓al_44, ↓al_46, ↓al_47, ↓al_48, ↓al_50, ↓al_51, ↓al_52, ↓al_53, ↓al_54, ↓as_2, ↓as_5, ↓as_6, ↓as_8, ↓as_9, ↓as_12, ↓as_13, ↓as_35, ↓as_36, ↓as_37, ↓as_38, ↓as_40, ↓as_41, ↓as_42, ↓as_43, ↓as_44, ↓as_46, ↓as_47, ↓as_48, ↓as_50, ↓as_51, ↓as_52, ↓as_53, ↓as_54, ↓gi_0, ↓pi_0, ↓ck_0, ↓gi_1, ↓pi_1, ↓ck_1, ↓gi_3, ↓pi_3, ↓ck_3, ↓gi_4, ↓pi_4, ↓ck_4, ↓gi_7, ↓pi_7, ↓ck_7, ↓gi_10, ↓pi_10, ↓ck_10, ↓gi_34, ↓pi_34, ↓ck_34, ↓gi_39, ↓pi_39, ↓ck_39, ↓gi_45, ↓pi_45, ↓ck_45, ↓gi_49, ↓pi_49, ↓ck_49, j0, j1, j2, j3, j4, j5, j6, j7, j8, j9, j10, j11, j12, j13, j14, j15, j16, j17, j18, j19, j20, j21, j24, j25, j30, j31, j32, j36, j41, j48, j49, j57, j59, j60, j63, j64, j81, j97, j99, j100, j122, j255, j300, j400, j500, j999, j1000, j24000, j_add, j_sub, j_mul, j_neg, j_lt, j_le, j_eq, nI_sI, nR_sI, nN_sI, nI_sR, nR_sR, nN_sR, Int.toNat_natCast, true_and, and_true, false_and, and_false, if_true, if_false, reduceIte, Nat.reduceEqDiff, Option.some.injEq, Prod.mk.injEq, k_of, k_add, k_sub, k_mul, k_neg, lg_ltJ, lg_gtJ, lg_eqJ, b_0, b_J0, b_J1, b_retZ, k0, k1, k2, k3, k10, k19, k20, k30, k40, k999, ↓dayC_b, ↓gsrC_b, ↓tenC_b, ↓zooC_b, ↓isqC_b, Int.add_sub_cancel, not_true, not_false_eq_true, jn1, Bool.false_eq_true, Bool.true_eq_false, reduceCtorEq, h5]
theorem tnC (h : TkC L y p u) (h1 : 0 ≤ lo) (h2 : lo ≤ 9) (h3 : 0 ≤ hi) (h4 : hi ≤ 5000) : fX6_takeNumber 3 (J lo) (J hi) u = some (J (if tkn L y p = 3 then vl L y p else lo), if tkn L y p = 3 then (if lo ≤ vl L y p ∧ vl L y p ≤ hi then u else sf u 2 (stk L y p)) else sf u 1 (stk L y p)) := by
  have h0 := h
  obtain ⟨hp, ⟨hS, hL, g1, g2, g3⟩, g4, g5, g6⟩ := h
  have hs := stk_le (y := y) hp
  have hn := nxt_le (y := y) hp
  have tr := tkn_rng L y p
  unfold fX6_takeNumber jX6_takeNumber_67
  by_cases c : tkn L y p = 3
  · have vr := vl_rng hp c
    have t3 := tkn_3 c
    have e : lp (fun s : Int32 × Int32 => bX6_takeNumber_23 3 (J lo) (J hi) u s.1 s.2) FU (J 0, J (stk L y p : Nat)) = some (J (vl L y p)) := by
      refine lp_for (f := fun s : Int32 × Int32 => bX6_takeNumber_23 3 (J lo) (J hi) u s.1 s.2) (fun x => (J (dv y (stk L y p) x), J ((stk L y p + x : Nat) : Int))) (nxt L y p - stk L y p) FU _ (FU_gt (by omega)) (fun k hk => ?_) ?_
      · have d0 := dv_rng (y := y) (stk L y p) k (fun i hi => dig t3.1 _ (by omega) (by omega)) (by omega)
        have d1 := dig t3.1 (stk L y p + k) (by omega) (by omega)
        show bX6_takeNumber_23 3 (J lo) (J hi) u (J (dv y (stk L y p) k)) (J ((stk L y p + k : Nat) : Int)) = _
        unfold bX6_takeNumber_23
        simp (disch := first | (simp only [SH_sIi, SH_sLi]; assumption) | assumption | (simp only [nN_sI, nN_sL, nN_sR]; assumption) | omega) only [↓s_nm, ↓s_bnd2, ↓s_some, ↓s_suml, ↓s_sumr, ↓s_nz, ↓gi_q, ↓pi_q, ↓ck_q, ↓gi_gs, ↓gr_gs, ↓g_0_0, ↓g_0_1, ↓g_0_2, ↓g_0_3, ↓g_0_4, ↓g_0_5, ↓g_0_6, ↓g_0_7, ↓g_1_0, ↓g_3_0, ↓g_3_3, ↓g_4_0, ↓g_4_1, ↓g_7_0, ↓g_7_1, ↓g_10_0, ↓g_10_1, ↓g_10_2, ↓g_34_0, ↓g_34_1, ↓g_34_2, ↓g_34_3, ↓g_34_4, ↓g_34_5, ↓g_39_2, ↓g_39_3, ↓g_39_4, ↓g_39_5, ↓g_39_6, ↓g_39_7, ↓g_39_8, ↓g_39_9, ↓g_45_0, ↓g_45_1, ↓g_45_2, ↓g_45_4, ↓g_49_0, ↓g_49_1, ↓g_49_2, ↓g_49_3, ↓g_49_4, ↓g_49_5, ↓g_49_6, ↓al_2, ↓al_5, ↓al_6, ↓al_8, ↓al_9, ↓al_11, ↓al_12, ↓al_13, ↓al_35, ↓al_36, ↓al_37, ↓al_38, ↓al_40, ↓al_41, ↓al_42, ↓al_43, ↓al_44, ↓al_46, ↓al_47, ↓al_48, ↓al_50, ↓al_51, ↓al_52, ↓al_53, ↓al_54, ↓as_2, ↓as_5, ↓as_6, ↓as_8, ↓as_9, ↓as_12, ↓as_13, ↓as_35, ↓as_36, ↓as_37, ↓as_38, ↓as_40, ↓as_41, ↓as_42, ↓as_43, ↓as_44, ↓as_46, ↓as_47, ↓as_48, ↓as_50, ↓as_51, ↓as_52, ↓as_53, ↓as_54, ↓gi_0, ↓pi_0, ↓ck_0, ↓gi_1, ↓pi_1, ↓ck_1, ↓gi_3, ↓pi_3, ↓ck_3, ↓gi_4, ↓pi_4, ↓ck_4, ↓gi_7, ↓pi_7, ↓ck_7, ↓gi_10, ↓pi_10, ↓ck_10, ↓gi_34, ↓pi_34, ↓ck_34, ↓gi_39, ↓pi_39, ↓ck_39, ↓gi_45, ↓pi_45, ↓ck_45, ↓gi_49, ↓pi_49, ↓ck_49, j0, j1, j2, j3, j4, j5, j6, j7, j8, j9, j10, j11, j12, j13, j14, j15, j16, j17, j18, j19, j20, j21, j24, j25, j30, j31, j32, j36, j41, j48, j49, j57, j59, j60, j63, j64, j81, j97, j99, j100, j122, j255, j300, j400, j500, j999, j1000, j24000, j_add, j_sub, j_mul, j_neg, j_lt, j_le, j_eq, nI_sI, nR_sI, nN_sI, nI_sR, nR_sR, nN_sR, Int.toNat_natCast, true_and, and_true, false_and, and_false, if_true, if_false, reduceIte, Nat.reduceEqDiff, Option.some.injEq, Prod.mk.injEq, k_of, k_add, k_sub, k_mul, k_neg, lg_ltJ, lg_gtJ, lg_eqJ, b_0, b_J0, b_J1, b_retZ, k0, k1, k2, k3, k10, k19, k20, k30, k40, k999, ↓dayC_b, ↓gsrC_b, ↓tenC_b, ↓zooC_b, ↓isqC_b, Int.add_sub_cancel, not_true, not_false_eq_true, jn1, Bool.false_eq_true, Bool.true_eq_false, reduceCtorEq, g6, show ((stk L y p + k : Nat) : Int) < (nxt L y p : Nat) by omega, show ((stk L y p + k : Nat) : Int) < 500 by omega, g2 (stk L y p + k) (by omega)]
        rw [dv_s, Int.mul_comm, show stk L y p + (k + 1) = stk L y p + k + 1 from rfl, jn1]
      · show bX6_takeNumber_23 3 (J lo) (J hi) u (J (dv y (stk L y p) (nxt L y p - stk L y p))) (J ((stk L y p + (nxt L y p - stk L y p) : Nat) : Int)) = _
        unfold bX6_takeNumber_23
        simp (disch := first | (simp only [SH_sIi, SH_sLi]; assumption) | assumption | (simp only [nN_sI, nN_sL, nN_sR]; assumption) | omega) only [↓s_nm, ↓s_bnd2, ↓s_some, ↓s_suml, ↓s_sumr, ↓s_nz, ↓gi_q, ↓pi_q, ↓ck_q, ↓gi_gs, ↓gr_gs, ↓g_0_0, ↓g_0_1, ↓g_0_2, ↓g_0_3, ↓g_0_4, ↓g_0_5, ↓g_0_6, ↓g_0_7, ↓g_1_0, ↓g_3_0, ↓g_3_3, ↓g_4_0, ↓g_4_1, ↓g_7_0, ↓g_7_1, ↓g_10_0, ↓g_10_1, ↓g_10_2, ↓g_34_0, ↓g_34_1, ↓g_34_2, ↓g_34_3, ↓g_34_4, ↓g_34_5, ↓g_39_2, ↓g_39_3, ↓g_39_4, ↓g_39_5, ↓g_39_6, ↓g_39_7, ↓g_39_8, ↓g_39_9, ↓g_45_0, ↓g_45_1, ↓g_45_2, ↓g_45_4, ↓g_49_0, ↓g_49_1, ↓g_49_2, ↓g_49_3, ↓g_49_4, ↓g_49_5, ↓g_49_6, ↓al_2, ↓al_5, ↓al_6, ↓al_8, ↓al_9, ↓al_11, ↓al_12, ↓al_13, ↓al_35, ↓al_36, ↓al_37, ↓al_38, ↓al_40, ↓al_41, ↓al_42, ↓al_43, ↓al_44, ↓al_46, ↓al_47, ↓al_48, ↓al_50, ↓al_51, ↓al_52, ↓al_53, ↓al_54, ↓as_2, ↓as_5, ↓as_6, ↓as_8, ↓as_9, ↓as_12, ↓as_13, ↓as_35, ↓as_36, ↓as_37, ↓as_38, ↓as_40, ↓as_41, ↓as_42, ↓as_43, ↓as_44, ↓as_46, ↓as_47, ↓as_48, ↓as_50, ↓as_51, ↓as_52, ↓as_53, ↓as_54, ↓gi_0, ↓pi_0, ↓ck_0, ↓gi_1, ↓pi_1, ↓ck_1, ↓gi_3, ↓pi_3, ↓ck_3, ↓gi_4, ↓pi_4, ↓ck_4, ↓gi_7, ↓pi_7, ↓ck_7, ↓gi_10, ↓pi_10, ↓ck_10, ↓gi_34, ↓pi_34, ↓ck_34, ↓gi_39, ↓pi_39, ↓ck_39, ↓gi_45, ↓pi_45, ↓ck_45, ↓gi_49, ↓pi_49, ↓ck_49, j0, j1, j2, j3, j4, j5, j6, j7, j8, j9, j10, j11, j12, j13, j14, j15, j16, j17, j18, j19, j20, j21, j24, j25, j30, j31, j32, j36, j41, j48, j49, j57, j59, j60, j63, j64, j81, j97, j99, j100, j122, j255, j300, j400, j500, j999, j1000, j24000, j_add, j_sub, j_mul, j_neg, j_lt, j_le, j_eq, nI_sI, nR_sI, nN_sI, nI_sR, nR_sR, nN_sR, Int.toNat_natCast, true_and, and_true, false_and, and_false, if_true, if_false, reduceIte, Nat.reduceEqDiff, Option.some.injEq, Prod.mk.injEq, k_of, k_add, k_sub, k_mul, k_neg, lg_ltJ, lg_gtJ, lg_eqJ, b_0, b_J0, b_J1, b_retZ, k0, k1, k2, k3, k10, k19, k20, k30, k40, k999, ↓dayC_b, ↓gsrC_b, ↓tenC_b, ↓zooC_b, ↓isqC_b, Int.add_sub_cancel, not_true, not_false_eq_true, jn1, Bool.false_eq_true, Bool.true_eq_false, reduceCtorEq, g6, show ¬ (((stk L y p + (nxt L y p - stk L y p) : Nat) : Int) < (nxt L y p : Nat)) by omega]
        rfl
    simp (disch := first | (simp only [SH_sIi, SH_sLi]; assumption) | assumption | (simp only [nN_sI, nN_sL, nN_sR]; assumption) | omega) only [↓s_nm, ↓s_bnd2, ↓s_some, ↓s_suml, ↓s_sumr, ↓s_nz, ↓gi_q, ↓pi_q, ↓ck_q, ↓gi_gs, ↓gr_gs, ↓g_0_0, ↓g_0_1, ↓g_0_2, ↓g_0_3, ↓g_0_4, ↓g_0_5, ↓g_0_6, ↓g_0_7, ↓g_1_0, ↓g_3_0, ↓g_3_3, ↓g_4_0, ↓g_4_1, ↓g_7_0, ↓g_7_1, ↓g_10_0, ↓g_10_1, ↓g_10_2, ↓g_34_0, ↓g_34_1, ↓g_34_2, ↓g_34_3, ↓g_34_4, ↓g_34_5, ↓g_39_2, ↓g_39_3, ↓g_39_4, ↓g_39_5, ↓g_39_6, ↓g_39_7, ↓g_39_8, ↓g_39_9, ↓g_45_0, ↓g_45_1, ↓g_45_2, ↓g_45_4, ↓g_49_0, ↓g_49_1, ↓g_49_2, ↓g_49_3, ↓g_49_4, ↓g_49_5, ↓g_49_6, ↓al_2, ↓al_5, ↓al_6, ↓al_8, ↓al_9, ↓al_11, ↓al_12, ↓al_13, ↓al_35, ↓al_36, ↓al_37, ↓al_38, ↓al_40, ↓al_41, ↓al_42, ↓al_43, ↓al_44, ↓al_46, ↓al_47, ↓al_48, ↓al_50, ↓al_51, ↓al_52, ↓al_53, ↓al_54, ↓as_2, ↓as_5, ↓as_6, ↓as_8, ↓as_9, ↓as_12, ↓as_13, ↓as_35, ↓as_36, ↓as_37, ↓as_38, ↓as_40, ↓as_41, ↓as_42, ↓as_43, ↓as_44, ↓as_46, ↓as_47, ↓as_48, ↓as_50, ↓as_51, ↓as_52, ↓as_53, ↓as_54, ↓gi_0, ↓pi_0, ↓ck_0, ↓gi_1, ↓pi_1, ↓ck_1, ↓gi_3, ↓pi_3, ↓ck_3, ↓gi_4, ↓pi_4, ↓ck_4, ↓gi_7, ↓pi_7, ↓ck_7, ↓gi_10, ↓pi_10, ↓ck_10, ↓gi_34, ↓pi_34, ↓ck_34, ↓gi_39, ↓pi_39, ↓ck_39, ↓gi_45, ↓pi_45, ↓ck_45, ↓gi_49, ↓pi_49, ↓ck_49, j0, j1, j2, j3, j4, j5, j6, j7, j8, j9, j10, j11, j12, j13, j14, j15, j16, j17, j18, j19, j20, j21, j24, j25, j30, j31, j32, j36, j41, j48, j49, j57, j59, j60, j63, j64, j81, j97, j99, j100, j122, j255, j300, j400, j500, j999, j1000, j24000, j_add, j_sub, j_mul, j_neg, j_lt, j_le, j_eq, nI_sI, nR_sI, nN_sI, nI_sR, nR_sR, nN_sR, Int.toNat_natCast, true_and, and_true, false_and, and_false, if_true, if_false, reduceIte, Nat.reduceEqDiff, Option.some.injEq, Prod.mk.injEq, k_of, k_add, k_sub, k_mul, k_neg, lg_ltJ, lg_gtJ, lg_eqJ, b_0, b_J0, b_J1, b_retZ, k0, k1, k2, k3, k10, k19, k20, k30, k40, k999, ↓dayC_b, ↓gsrC_b, ↓tenC_b, ↓zooC_b, ↓isqC_b, Int.add_sub_cancel, not_true, not_false_eq_true, jn1, Bool.false_eq_true, Bool.true_eq_false, reduceCtorEq, g4, g5, eq_true c]
    rw [e, s_some]
    by_cases c1 : vl L y p < lo
    · simp (disch := first | (simp only [SH_sIi, SH_sLi]; assumption) | assumption | (simp only [nN_sI, nN_sL, nN_sR]; assumption) | omega) only [↓s_nm, ↓s_bnd2, ↓s_some, ↓s_suml, ↓s_sumr, ↓s_nz, ↓gi_q, ↓pi_q, ↓ck_q, ↓gi_gs, ↓gr_gs, ↓g_0_0, ↓g_0_1, ↓g_0_2, ↓g_0_3, ↓g_0_4, ↓g_0_5, ↓g_0_6, ↓g_0_7, ↓g_1_0, ↓g_3_0, ↓g_3_3, ↓g_4_0, ↓g_4_1, ↓g_7_0, ↓g_7_1, ↓g_10_0, ↓g_10_1, ↓g_10_2, ↓g_34_0, ↓g_34_1, ↓g_34_2, ↓g_34_3, ↓g_34_4, ↓g_34_5, ↓g_39_2, ↓g_39_3, ↓g_39_4, ↓g_39_5, ↓g_39_6, ↓g_39_7, ↓g_39_8, ↓g_39_9, ↓g_45_0, ↓g_45_1, ↓g_45_2, ↓g_45_4, ↓g_49_0, ↓g_49_1, ↓g_49_2, ↓g_49_3, ↓g_49_4, ↓g_49_5, ↓g_49_6, ↓al_2, ↓al_5, ↓al_6, ↓al_8, ↓al_9, ↓al_11, ↓al_12, ↓al_13, ↓al_35, ↓al_36, ↓al_37, ↓al_38, ↓al_40, ↓al_41, ↓al_42, ↓al_43, ↓al_44, ↓al_46, ↓al_47, ↓al_48, ↓al_50, ↓al_51, ↓al_52, ↓al_53, ↓al_54, ↓as_2, ↓as_5, ↓as_6, ↓as_8, ↓as_9, ↓as_12, ↓as_13, ↓as_35, ↓as_36, ↓as_37, ↓as_38, ↓as_40, ↓as_41, ↓as_42, ↓as_43, ↓as_44, ↓as_46, ↓as_47, ↓as_48, ↓as_50, ↓as_51, ↓as_52, ↓as_53, ↓as_54, ↓gi_0, ↓pi_0, ↓ck_0, ↓gi_1, ↓pi_1, ↓ck_1, ↓gi_3, ↓pi_3, ↓ck_3, ↓gi_4, ↓pi_4, ↓ck_4, ↓gi_7, ↓pi_7, ↓ck_7, ↓gi_10, ↓pi_10, ↓ck_10, ↓gi_34, ↓pi_34, ↓ck_34, ↓gi_39, ↓pi_39, ↓ck_39, ↓gi_45, ↓pi_45, ↓ck_45, ↓gi_49, ↓pi_49, ↓ck_49, j0, j1, j2, j3, j4, j5, j6, j7, j8, j9, j10, j11, j12, j13, j14, j15, j16, j17, j18, j19, j20, j21, j24, j25, j30, j31, j32, j36, j41, j48, j49, j57, j59, j60, j63, j64, j81, j97, j99, j100, j122, j255, j300, j400, j500, j999, j1000, j24000, j_add, j_sub, j_mul, j_neg, j_lt, j_le, j_eq, nI_sI, nR_sI, nN_sI, nI_sR, nR_sR, nN_sR, Int.toNat_natCast, true_and, and_true, false_and, and_false, if_true, if_false, reduceIte, Nat.reduceEqDiff, Option.some.injEq, Prod.mk.injEq, k_of, k_add, k_sub, k_mul, k_neg, lg_ltJ, lg_gtJ, lg_eqJ, b_0, b_J0, b_J1, b_retZ, k0, k1, k2, k3, k10, k19, k20, k30, k40, k999, ↓dayC_b, ↓gsrC_b, ↓tenC_b, ↓zooC_b, ↓isqC_b, Int.add_sub_cancel, not_true, not_false_eq_true, jn1, Bool.false_eq_true, Bool.true_eq_false, reduceCtorEq, c1]
      rw [sfC h0 (by omega) (by omega), if_neg (show ¬ (lo ≤ vl L y p ∧ vl L y p ≤ hi) by omega)]; rfl
    · by_cases c2 : hi < vl L y p
      · simp (disch := first | (simp only [SH_sIi, SH_sLi]; assumption) | assumption | (simp only [nN_sI, nN_sL, nN_sR]; assumption) | omega) only [↓s_nm, ↓s_bnd2, ↓s_some, ↓s_suml, ↓s_sumr, ↓s_nz, ↓gi_q, ↓pi_q, ↓ck_q, ↓gi_gs, ↓gr_gs, ↓g_0_0, ↓g_0_1, ↓g_0_2, ↓g_0_3, ↓g_0_4, ↓g_0_5, ↓g_0_6, ↓g_0_7, ↓g_1_0, ↓g_3_0, ↓g_3_3, ↓g_4_0, ↓g_4_1, ↓g_7_0, ↓g_7_1, ↓g_10_0, ↓g_10_1, ↓g_10_2, ↓g_34_0, ↓g_34_1, ↓g_34_2, ↓g_34_3, ↓g_34_4, ↓g_34_5, ↓g_39_2, ↓g_39_3, ↓g_39_4, ↓g_39_5, ↓g_39_6, ↓g_39_7, ↓g_39_8, ↓g_39_9, ↓g_45_0, ↓g_45_1, ↓g_45_2, ↓g_45_4, ↓g_49_0, ↓g_49_1, ↓g_49_2, ↓g_49_3, ↓g_49_4, ↓g_49_5, ↓g_49_6, ↓al_2, ↓al_5, ↓al_6, ↓al_8, ↓al_9, ↓al_11, ↓al_12, ↓al_13, ↓al_35, ↓al_36, ↓al_37, ↓al_38, ↓al_40, ↓al_41, ↓al_42, ↓al_43, ↓al_44, ↓al_46, ↓al_47, ↓al_48, ↓al_50, ↓al_51, ↓al_52, ↓al_53, ↓al_54, ↓as_2, ↓as_5, ↓as_6, ↓as_8, ↓as_9, ↓as_12, ↓as_13, ↓as_35, ↓as_36, ↓as_37, ↓as_38, ↓as_40, ↓as_41, ↓as_42, ↓as_43, ↓as_44, ↓as_46, ↓as_47, ↓as_48, ↓as_50, ↓as_51, ↓as_52, ↓as_53, ↓as_54, ↓gi_0, ↓pi_0, ↓ck_0, ↓gi_1, ↓pi_1, ↓ck_1, ↓gi_3, ↓pi_3, ↓ck_3, ↓gi_4, ↓pi_4, ↓ck_4, ↓gi_7, ↓pi_7, ↓ck_7, ↓gi_10, ↓pi_10, ↓ck_10, ↓gi_34, ↓pi_34, ↓ck_34, ↓gi_39, ↓pi_39, ↓ck_39, ↓gi_45, ↓pi_45, ↓ck_45, ↓gi_49, ↓pi_49, ↓ck_49, j0, j1, j2, j3, j4, j5, j6, j7, j8, j9, j10, j11, j12, j13, j14, j15, j16, j17, j18, j19, j20, j21, j24, j25, j30, j31, j32, j36, j41, j48, j49, j57, j59, j60, j63, j64, j81, j97, j99, j100, j122, j255, j300, j400, j500, j999, j1000, j24000, j_add, j_sub, j_mul, j_neg, j_lt, j_le, j_eq, nI_sI, nR_sI, nN_sI, nI_sR, nR_sR, nN_sR, Int.toNat_natCast, true_and, and_true, false_and, and_false, if_true, if_false, reduceIte, Nat.reduceEqDiff, Option.some.injEq, Prod.mk.injEq, k_of, k_add, k_sub, k_mul, k_neg, lg_ltJ, lg_gtJ, lg_eqJ, b_0, b_J0, b_J1, b_retZ, k0, k1, k2, k3, k10, k19, k20, k30, k40, k999, ↓dayC_b, ↓gsrC_b, ↓tenC_b, ↓zooC_b, ↓isqC_b, Int.add_sub_cancel, not_true, not_false_eq_true, jn1, Bool.false_eq_true, Bool.true_eq_false, reduceCtorEq, c1, c2]
        rw [sfC h0 (by omega) (by omega), if_neg (show ¬ (lo ≤ vl L y p ∧ vl L y p ≤ hi) by omega)]; rfl
      · simp (disch := first | (simp only [SH_sIi, SH_sLi]; assumption) | assumption | (simp only [nN_sI, nN_sL, nN_sR]; assumption) | omega) only [↓s_nm, ↓s_bnd2, ↓s_some, ↓s_suml, ↓s_sumr, ↓s_nz, ↓gi_q, ↓pi_q, ↓ck_q, ↓gi_gs, ↓gr_gs, ↓g_0_0, ↓g_0_1, ↓g_0_2, ↓g_0_3, ↓g_0_4, ↓g_0_5, ↓g_0_6, ↓g_0_7, ↓g_1_0, ↓g_3_0, ↓g_3_3, ↓g_4_0, ↓g_4_1, ↓g_7_0, ↓g_7_1, ↓g_10_0, ↓g_10_1, ↓g_10_2, ↓g_34_0, ↓g_34_1, ↓g_34_2, ↓g_34_3, ↓g_34_4, ↓g_34_5, ↓g_39_2, ↓g_39_3, ↓g_39_4, ↓g_39_5, ↓g_39_6, ↓g_39_7, ↓g_39_8, ↓g_39_9, ↓g_45_0, ↓g_45_1, ↓g_45_2, ↓g_45_4, ↓g_49_0, ↓g_49_1, ↓g_49_2, ↓g_49_3, ↓g_49_4, ↓g_49_5, ↓g_49_6, ↓al_2, ↓al_5, ↓al_6, ↓al_8, ↓al_9, ↓al_11, ↓al_12, ↓al_13, ↓al_35, ↓al_36, ↓al_37, ↓al_38, ↓al_40, ↓al_41, ↓al_42, ↓al_43, ↓al_44, ↓al_46, ↓al_47, ↓al_48, ↓al_50, ↓al_51, ↓al_52, ↓al_53, ↓al_54, ↓as_2, ↓as_5, ↓as_6, ↓as_8, ↓as_9, ↓as_12, ↓as_13, ↓as_35, ↓as_36, ↓as_37, ↓as_38, ↓as_40, ↓as_41, ↓as_42, ↓as_43, ↓as_44, ↓as_46, ↓as_47, ↓as_48, ↓as_50, ↓as_51, ↓as_52, ↓as_53, ↓as_54, ↓gi_0, ↓pi_0, ↓ck_0, ↓gi_1, ↓pi_1, ↓ck_1, ↓gi_3, ↓pi_3, ↓ck_3, ↓gi_4, ↓pi_4, ↓ck_4, ↓gi_7, ↓pi_7, ↓ck_7, ↓gi_10, ↓pi_10, ↓ck_10, ↓gi_34, ↓pi_34, ↓ck_34, ↓gi_39, ↓pi_39, ↓ck_39, ↓gi_45, ↓pi_45, ↓ck_45, ↓gi_49, ↓pi_49, ↓ck_49, j0, j1, j2, j3, j4, j5, j6, j7, j8, j9, j10, j11, j12, j13, j14, j15, j16, j17, j18, j19, j20, j21, j24, j25, j30, j31, j32, j36, j41, j48, j49, j57, j59, j60, j63, j64, j81, j97, j99, j100, j122, j255, j300, j400, j500, j999, j1000, j24000, j_add, j_sub, j_mul, j_neg, j_lt, j_le, j_eq, nI_sI, nR_sI, nN_sI, nI_sR, nR_sR, nN_sR, Int.toNat_natCast, true_and, and_true, false_and, and_false, if_true, if_false, reduceIte, Nat.reduceEqDiff, Option.some.injEq, Prod.mk.injEq, k_of, k_add, k_sub, k_mul, k_neg, lg_ltJ, lg_gtJ, lg_eqJ, b_0, b_J0, b_J1, b_retZ, k0, k1, k2, k3, k10, k19, k20, k30, k40, k999, ↓dayC_b, ↓gsrC_b, ↓tenC_b, ↓zooC_b, ↓isqC_b, Int.add_sub_cancel, not_true, not_false_eq_true, jn1, Bool.false_eq_true, Bool.true_eq_false, reduceCtorEq, c1, c2]
        rw [if_pos (show lo ≤ vl L y p ∧ vl L y p ≤ hi by omega)]
  · simp (disch := first | (simp only [SH_sIi, SH_sLi]; assumption) | assumption | (simp only [nN_sI, nN_sL, nN_sR]; assumption) | omega) only [↓s_nm, ↓s_bnd2, ↓s_some, ↓s_suml, ↓s_sumr, ↓s_nz, ↓gi_q, ↓pi_q, ↓ck_q, ↓gi_gs, ↓gr_gs, ↓g_0_0, ↓g_0_1, ↓g_0_2, ↓g_0_3, ↓g_0_4, ↓g_0_5, ↓g_0_6, ↓g_0_7, ↓g_1_0, ↓g_3_0, ↓g_3_3, ↓g_4_0, ↓g_4_1, ↓g_7_0, ↓g_7_1, ↓g_10_0, ↓g_10_1, ↓g_10_2, ↓g_34_0, ↓g_34_1, ↓g_34_2, ↓g_34_3, ↓g_34_4, ↓g_34_5, ↓g_39_2, ↓g_39_3, ↓g_39_4, ↓g_39_5, ↓g_39_6, ↓g_39_7, ↓g_39_8, ↓g_39_9, ↓g_45_0, ↓g_45_1, ↓g_45_2, ↓g_45_4, ↓g_49_0, ↓g_49_1, ↓g_49_2, ↓g_49_3, ↓g_49_4, ↓g_49_5, ↓g_49_6, ↓al_2, ↓al_5, ↓al_6, ↓al_8, ↓al_9, ↓al_11, ↓al_12, ↓al_13, ↓al_35, ↓al_36, ↓al_37, ↓al_38, ↓al_40, ↓al_41, ↓al_42, ↓al_43, ↓al_44, ↓al_46, ↓al_47, ↓al_48, ↓al_50, ↓al_51, ↓al_52, ↓al_53, ↓al_54, ↓as_2, ↓as_5, ↓as_6, ↓as_8, ↓as_9, ↓as_12, ↓as_13, ↓as_35, ↓as_36, ↓as_37, ↓as_38, ↓as_40, ↓as_41, ↓as_42, ↓as_43, ↓as_44, ↓as_46, ↓as_47, ↓as_48, ↓as_50, ↓as_51, ↓as_52, ↓as_53, ↓as_54, ↓gi_0, ↓pi_0, ↓ck_0, ↓gi_1, ↓pi_1, ↓ck_1, ↓gi_3, ↓pi_3, ↓ck_3, ↓gi_4, ↓pi_4, ↓ck_4, ↓gi_7, ↓pi_7, ↓ck_7, ↓gi_10, ↓pi_10, ↓ck_10, ↓gi_34, ↓pi_34, ↓ck_34, ↓gi_39, ↓pi_39, ↓ck_39, ↓gi_45, ↓pi_45, ↓ck_45, ↓gi_49, ↓pi_49, ↓ck_49, j0, j1, j2, j3, j4, j5, j6, j7, j8, j9, j10, j11, j12, j13, j14, j15, j16, j17, j18, j19, j20, j21, j24, j25, j30, j31, j32, j36, j41, j48, j49, j57, j59, j60, j63, j64, j81, j97, j99, j100, j122, j255, j300, j400, j500, j999, j1000, j24000, j_add, j_sub, j_mul, j_neg, j_lt, j_le, j_eq, nI_sI, nR_sI, nN_sI, nI_sR, nR_sR, nN_sR, Int.toNat_natCast, true_and, and_true, false_and, and_false, if_true, if_false, reduceIte, Nat.reduceEqDiff, Option.some.injEq, Prod.mk.injEq, k_of, k_add, k_sub, k_mul, k_neg, lg_ltJ, lg_gtJ, lg_eqJ, b_0, b_J0, b_J1, b_retZ, k0, k1, k2, k3, k10, k19, k20, k30, k40, k999, ↓dayC_b, ↓gsrC_b, ↓tenC_b, ↓zooC_b, ↓isqC_b, Int.add_sub_cancel, not_true, not_false_eq_true, jn1, Bool.false_eq_true, Bool.true_eq_false, reduceCtorEq, g4, c]
    rw [sfC h0 (by omega) (by omega)]; rfl
theorem isw_at {j : Nat} (h : isw L y p i) (hj : j < sln i) : y (stk L y p + j) = swd i j := by
  have h3 := h.2.2
  unfold wdf at h3
  have hw := fstN_le (p := fun x => decide (y (stk L y p + x) ≠ swd i x)) (sln i) 0
  have hne := fst_ne (p := fun x => decide (y (stk L y p + x) ≠ swd i x)) (sln i) 0 j (by omega) (by omega)
  by_cases hh : y (stk L y p + j) = swd i j
  · exact hh
  · exact absurd (decide_eq_true hh) hne
theorem ex_67 (h : isw L y p 6) (h' : isw L y p 7) : False := by
  have e := isw_at (j := 0) h (by decide)
  rw [isw_at (j := 0) h' (by decide)] at e
  exact absurd e (by decide +kernel)
theorem ex_89 (h : isw L y p 8) (h' : isw L y p 9) : False := by
  have e1 := h.2.1
  have e2 := h'.2.1
  have e3 : sln 8 = 5 := by decide
  have e4 : sln 9 = 4 := by decide
  omega
theorem tchC (h : TkC L y p u) {a c : Nat} (ha : a < 10) (hc : c < 10) : fX6_takeChoice 3 (some (1000000 + a)) (some (1000000 + c)) u = some (J (if isw L y p c then 1 else 0), if isw L y p a ∨ isw L y p c then u else sf u 1 (stk L y p)) := by
  have hS := h.2.1.1
  unfold fX6_takeChoice
  simp (disch := first | (simp only [SH_sIi, SH_sLi]; assumption) | assumption | (simp only [nN_sI, nN_sL, nN_sR]; assumption) | omega) only [↓s_nm, ↓s_bnd2, ↓s_some, ↓s_suml, ↓s_sumr, ↓s_nz, ↓gi_q, ↓pi_q, ↓ck_q, ↓gi_gs, ↓gr_gs, ↓g_0_0, ↓g_0_1, ↓g_0_2, ↓g_0_3, ↓g_0_4, ↓g_0_5, ↓g_0_6, ↓g_0_7, ↓g_1_0, ↓g_3_0, ↓g_3_3, ↓g_4_0, ↓g_4_1, ↓g_7_0, ↓g_7_1, ↓g_10_0, ↓g_10_1, ↓g_10_2, ↓g_34_0, ↓g_34_1, ↓g_34_2, ↓g_34_3, ↓g_34_4, ↓g_34_5, ↓g_39_2, ↓g_39_3, ↓g_39_4, ↓g_39_5, ↓g_39_6, ↓g_39_7, ↓g_39_8, ↓g_39_9, ↓g_45_0, ↓g_45_1, ↓g_45_2, ↓g_45_4, ↓g_49_0, ↓g_49_1, ↓g_49_2, ↓g_49_3, ↓g_49_4, ↓g_49_5, ↓g_49_6, ↓al_2, ↓al_5, ↓al_6, ↓al_8, ↓al_9, ↓al_11, ↓al_12, ↓al_13, ↓al_35, ↓al_36, ↓al_37, ↓al_38, ↓al_40, ↓al_41, ↓al_42, ↓al_43, ↓al_44, ↓al_46, ↓al_47, ↓al_48, ↓al_50, ↓al_51, ↓al_52, ↓al_53, ↓al_54, ↓as_2, ↓as_5, ↓as_6, ↓as_8, ↓as_9, ↓as_12, ↓as_13, ↓as_35, ↓as_36, ↓as_37, ↓as_38, ↓as_40, ↓as_41, ↓as_42, ↓as_43, ↓as_44, ↓as_46, ↓as_47, ↓as_48, ↓as_50, ↓as_51, ↓as_52, ↓as_53, ↓as_54, ↓gi_0, ↓pi_0, ↓ck_0, ↓gi_1, ↓pi_1, ↓ck_1, ↓gi_3, ↓pi_3, ↓ck_3, ↓gi_4, ↓pi_4, ↓ck_4, ↓gi_7, ↓pi_7, ↓ck_7, ↓gi_10, ↓pi_10, ↓ck_10, ↓gi_34, ↓pi_34, ↓ck_34, ↓gi_39, ↓pi_39, ↓ck_39, ↓gi_45, ↓pi_45, ↓ck_45, ↓gi_49, ↓pi_49, ↓ck_49, j0, j1, j2, j3, j4, j5, j6, j7, j8, j9, j10, j11, j12, j13, j14, j15, j16, j17, j18, j19, j20, j21, j24, j25, j30, j31, j32, j36, j41, j48, j49, j57, j59, j60, j63, j64, j81, j97, j99, j100, j122, j255, j300, j400, j500, j999, j1000, j24000, j_add, j_sub, j_mul, j_neg, j_lt, j_le, j_eq, nI_sI, nR_sI, nN_sI, nI_sR, nR_sR, nN_sR, Int.toNat_natCast, true_and, and_true, false_and, and_false, if_true, if_false, reduceIte, Nat.reduceEqDiff, Option.some.injEq, Prod.mk.injEq, k_of, k_add, k_sub, k_mul, k_neg, lg_ltJ, lg_gtJ, lg_eqJ, b_0, b_J0, b_J1, b_retZ, k0, k1, k2, k3, k10, k19, k20, k30, k40, k999, ↓dayC_b, ↓gsrC_b, ↓tenC_b, ↓zooC_b, ↓isqC_b, Int.add_sub_cancel, not_true, not_false_eq_true, jn1, Bool.false_eq_true, Bool.true_eq_false, reduceCtorEq, ↓iwC h hc, ↓iwC h ha]
  by_cases d : isw L y p c
  · rw [if_neg (fun x => x d), if_pos d, if_pos (Or.inr d)]
  · rw [if_pos d, if_neg d]
    by_cases e : isw L y p a
    · rw [if_neg (fun x => x e), if_pos (Or.inl e)]
    · rw [if_pos e, if_neg (fun x => x.elim e d), sfC h (by omega) (by omega)]; rfl
end PARSE
