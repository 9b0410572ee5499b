/-! mend: the call -/
theorem cP_pl (n N : Nat) {i : Nat} (hi : i ≤ pl n N) : pl n (cP n N i) = i ∧ cP n N i ≤ N := by
  unfold cP
  by_cases h : i < pl n N
  · rw [if_pos h]
    obtain ⟨h1, h2, h3⟩ := cq_spec n N i h
    exact ⟨h3, by omega⟩
  · rw [if_neg h]
    exact ⟨by omega, Nat.le_refl _⟩
theorem cP_s (n N : Nat) (h : Nat → Int) {i : Nat} (hi : i < pl n N) : fq n h (cP n N (i + 1)) = fq n h (cP n N i) + ab (h (cq n N i) - 5) := by
  obtain ⟨h1, h2, h3⟩ := cq_spec n N i hi
  obtain ⟨g1, g2⟩ := cP_pl n N (i := i + 1) (by omega)
  have e0 : cP n N i = cq n N i := by unfold cP; rw [if_pos hi]
  have hlt : cq n N i < cP n N (i + 1) := by
    by_cases hh : cq n N i < cP n N (i + 1)
    · exact hh
    · exfalso
      have := pl_mono n (a := cP n N (i + 1)) (b := cq n N i) (by omega)
      omega
  have e1 := fq_const (n := n) (h := h) (a := cq n N i + 1) (cP n N (i + 1) - (cq n N i + 1)) (by
    rw [show cq n N i + 1 + (cP n N (i + 1) - (cq n N i + 1)) = cP n N (i + 1) by omega, g1, pl_s, h2, h3])
  rw [show cq n N i + 1 + (cP n N (i + 1) - (cq n N i + 1)) = cP n N (i + 1) by omega] at e1
  rw [e1, fq_s, if_pos h2, e0]
theorem cP_0 (n N : Nat) (h : Nat → Int) : fq n h (cP n N 0) = 0 := by
  obtain ⟨g1, g2⟩ := cP_pl n N (i := 0) (by omega)
  have := fq_const (n := n) (h := h) (a := 0) (cP n N 0) (by rw [Nat.zero_add, g1]; rfl)
  rw [Nat.zero_add] at this
  rw [this]; rfl
def lvA (D : Sp) (n N : Nat) (h : Nat → Int) : List Lf := lvs D n N h N (fun _ => 5) 0
def PLc (a k : Nat) : Prop := (a = 49 ∧ k = 8) ∨ a = 50 ∨ a = 53 ∨ a = 54
section MEND2
variable {C D : Sp} {n N : Nat} {h f : Nat → Int} {u u' : Mem} {β : Type} {q i g : Nat} {a b c d t v z : Int} {P : Nat → Nat → Prop}
theorem leastC (hD : OkD C D) (hC : C 55 25 ≤ 20) (hX : MC C D n N h u) (hN : N ≤ 20) (hp : pl n N ≤ 4) (hh : ∀ x, x < N → bt n x = 1 → 0 ≤ h x ∧ h x ≤ 10) :
    ∃ v r, fX4_leastChange 49 u = some (J (fo (1 + fq n h N, r) (lvA D n N h)).1, v) ∧ Fr PLc u v ∧ ∀ x, x < 20 → mI v 50 x = J (if x < N ∧ bt n x = 1 then (fo (1 + fq n h N, r) (lvA D n N h)).2 x else -1) := by
  have hX0 := hX
  obtain ⟨hS, hA, h7, hc⟩ := hX
  have f0 : Fr PMd u (sI u 49 8 (J 1)) := Fr.rfl.sI (by unfold PMd; omega)
  have hlp := lp_inv (f := fun s : Int32 × Mem => bX4_leastChange_7 49 s.1 s.2) (E := fun v => Fr PMd u v ∧ mI v 49 8 = J (1 + fq n h N))
    (fun m s => s.1 = J (m : Nat) ∧ Fr PMd u s.2 ∧ mI s.2 49 8 = J (1 + fq n h (cP n N m))) (pl n N) (F := FU) (s := (J 0, sI u 49 8 (J 1))) ⟨rfl, f0, by show mI (sI u 49 8 (J 1)) 49 8 = _; rw [cP_0]; simp [mI_sI]⟩ ?_ ?_ (FU_gt (by omega))
  · obtain ⟨w1, x1, x2, x3⟩ := hlp
    have hX1 := MC_fr hX0 x2 fun a k h => h
    have s1 := hX1.1
    have fr := fq_rng hh N (Nat.le_refl _)
    obtain ⟨w2, y1, y2, y3, y4⟩ := tryC hD hC hN hp hh N 6 (fun _ => 5) 0 (1 + fq n h N, fun x => (mI w1 54 (pl n x)).toInt) w1 (Nat.le_refl _) (by omega) hX1 (fun x hx _ => by omega) (fun x hx _ => by omega) ⟨x3, by show 0 ≤ 1 + fq n h N ∧ 1 + fq n h N ≤ 1000; omega, fun x hx hbx => (j_self _).symm⟩ (Int.le_refl _) (by omega)
    obtain ⟨st, est⟩ : ∃ st, st = fo (1 + fq n h N, fun x => (mI w1 54 (pl n x)).toInt) (lvA D n N h) := ⟨_, rfl⟩
    have y4' : RepB n N st w2 := by rw [est]; exact y4
    have hX2 := MC_fr hX1 y2 fun a k h => h
    have s2 := hX2.1
    obtain ⟨w3, z1, z2, z3⟩ := fillA (a := 50) (N := 20) (z := -1) s2 rfl rfl (by omega)
    have s3 := z2.SH s2
    have hlp2 := lp_inv (f := fun s : Int32 × Mem => bX4_leastChange_57 49 s.1 s.2) (E := fun v => Fr (fun a _ => a = 50) w3 v ∧ ∀ x, x < 20 → mI v 50 x = J (if x < N ∧ bt n x = 1 then st.2 x else -1))
      (fun m s => s.1 = J (m : Nat) ∧ Fr (fun a _ => a = 50) w3 s.2 ∧ ∀ x, x < 20 → mI s.2 50 x = J (if x < N ∧ bt n x = 1 ∧ pl n x < m then st.2 x else -1)) (pl n N) (F := FU) (s := (J 0, w3)) ⟨rfl, Fr.rfl, fun x hx => by show mI w3 50 x = _; rw [if_neg (by omega)]; exact z3 x hx⟩ ?_ ?_ (FU_gt (by omega))
    · obtain ⟨w4, t1, t2, t3⟩ := hlp2
      have s4 := t2.SH s3
      have e8 : mI w4 49 8 = J st.1 := by rw [t2.2.2 _ _ (by omega), z2.2.2 _ _ (by omega)]; exact y4'.1
      refine ⟨w4, fun x => (mI w1 54 (pl n x)).toInt, ?_, ?_, ?_⟩
      · rw [← est]
        unfold fX4_leastChange
        simp (disch := first | (simp only [SH_sIi, SH_sLi]; assumption) | assumption | (simp only [nN_sI, nN_sL, nN_sR]; assumption) | omega) only [↓s_nm, ↓s_bnd2, ↓s_some, ↓s_suml, ↓s_sumr, ↓s_nz, ↓gi_q, ↓pi_q, ↓ck_q, ↓gi_gs, ↓gr_gs, ↓g_0_0, ↓g_0_1, ↓g_0_2, ↓g_0_3, ↓g_0_4, ↓g_0_5, ↓g_0_6, ↓g_0_7, ↓g_1_0, ↓g_3_0, ↓g_3_3, ↓g_4_0, ↓g_4_1, ↓g_7_0, ↓g_7_1, ↓g_10_0, ↓g_10_1, ↓g_10_2, ↓g_34_0, ↓g_34_1, ↓g_34_2, ↓g_34_3, ↓g_34_4, ↓g_34_5, ↓g_39_2, ↓g_39_3, ↓g_39_4, ↓g_39_5, ↓g_39_6, ↓g_39_7, ↓g_39_8, ↓g_39_9, ↓g_45_0, ↓g_45_1, ↓g_45_2, ↓g_45_4, ↓g_49_0, ↓g_49_1, ↓g_49_2, ↓g_49_3, ↓g_49_4, ↓g_49_5, ↓g_49_6, ↓al_2, ↓al_5, ↓al_6, ↓al_8, ↓al_9, ↓al_11, ↓al_12, ↓al_13, ↓al_35, ↓al_36, ↓al_37, ↓al_38, ↓al_40, ↓al_41, ↓al_42, ↓al_43, ↓al_44, ↓al_46, ↓al_47, ↓al_48, ↓al_50, ↓al_51, ↓al_52, ↓al_53, ↓al_54, ↓as_2, ↓as_5, ↓as_6, ↓as_8, ↓as_9, ↓as_12, ↓as_13, ↓as_35, ↓as_36, ↓as_37, ↓as_38, ↓as_40, ↓as_41, ↓as_42, ↓as_43, ↓as_44, ↓as_46, ↓as_47, ↓as_48, ↓as_50, ↓as_51, ↓as_52, ↓as_53, ↓as_54, ↓gi_0, ↓pi_0, ↓ck_0, ↓gi_1, ↓pi_1, ↓ck_1, ↓gi_3, ↓pi_3, ↓ck_3, ↓gi_4, ↓pi_4, ↓ck_4, ↓gi_7, ↓pi_7, ↓ck_7, ↓gi_10, ↓pi_10, ↓ck_10, ↓gi_34, ↓pi_34, ↓ck_34, ↓gi_39, ↓pi_39, ↓ck_39, ↓gi_45, ↓pi_45, ↓ck_45, ↓gi_49, ↓pi_49, ↓ck_49, j0, j1, j2, j3, j4, j5, j6, j7, j8, j9, j10, j11, j12, j13, j14, j15, j16, j17, j18, j19, j20, j21, j24, j25, j30, j31, j32, j36, j41, j48, j49, j57, j59, j60, j63, j64, j81, j97, j99, j100, j122, j255, j300, j400, j500, j999, j1000, j24000, j_add, j_sub, j_mul, j_neg, j_lt, j_le, j_eq, nI_sI, nR_sI, nN_sI, nI_sR, nR_sR, nN_sR, Int.toNat_natCast, true_and, and_true, false_and, and_false, if_true, if_false, reduceIte, Nat.reduceEqDiff, Option.some.injEq, Prod.mk.injEq, k_of, k_add, k_sub, k_mul, k_neg, lg_ltJ, lg_gtJ, lg_eqJ, b_0, b_J0, b_J1, b_retZ, k0, k1, k2, k3, k10, k19, k20, k30, k40, k999, ↓dayC_b, ↓gsrC_b, ↓tenC_b, ↓zooC_b, ↓isqC_b, Int.add_sub_cancel, not_true, not_false_eq_true, jn1, Bool.false_eq_true, Bool.true_eq_false, reduceCtorEq]
        rw [x1]
        simp (disch := first | (simp only [SH_sIi, SH_sLi]; assumption) | assumption | (simp only [nN_sI, nN_sL, nN_sR]; assumption) | omega) only [↓s_nm, ↓s_bnd2, ↓s_some, ↓s_suml, ↓s_sumr, ↓s_nz, ↓gi_q, ↓pi_q, ↓ck_q, ↓gi_gs, ↓gr_gs, ↓g_0_0, ↓g_0_1, ↓g_0_2, ↓g_0_3, ↓g_0_4, ↓g_0_5, ↓g_0_6, ↓g_0_7, ↓g_1_0, ↓g_3_0, ↓g_3_3, ↓g_4_0, ↓g_4_1, ↓g_7_0, ↓g_7_1, ↓g_10_0, ↓g_10_1, ↓g_10_2, ↓g_34_0, ↓g_34_1, ↓g_34_2, ↓g_34_3, ↓g_34_4, ↓g_34_5, ↓g_39_2, ↓g_39_3, ↓g_39_4, ↓g_39_5, ↓g_39_6, ↓g_39_7, ↓g_39_8, ↓g_39_9, ↓g_45_0, ↓g_45_1, ↓g_45_2, ↓g_45_4, ↓g_49_0, ↓g_49_1, ↓g_49_2, ↓g_49_3, ↓g_49_4, ↓g_49_5, ↓g_49_6, ↓al_2, ↓al_5, ↓al_6, ↓al_8, ↓al_9, ↓al_11, ↓al_12, ↓al_13, ↓al_35, ↓al_36, ↓al_37, ↓al_38, ↓al_40, ↓al_41, ↓al_42, ↓al_43, ↓al_44, ↓al_46, ↓al_47, ↓al_48, ↓al_50, ↓al_51, ↓al_52, ↓al_53, ↓al_54, ↓as_2, ↓as_5, ↓as_6, ↓as_8, ↓as_9, ↓as_12, ↓as_13, ↓as_35, ↓as_36, ↓as_37, ↓as_38, ↓as_40, ↓as_41, ↓as_42, ↓as_43, ↓as_44, ↓as_46, ↓as_47, ↓as_48, ↓as_50, ↓as_51, ↓as_52, ↓as_53, ↓as_54, ↓gi_0, ↓pi_0, ↓ck_0, ↓gi_1, ↓pi_1, ↓ck_1, ↓gi_3, ↓pi_3, ↓ck_3, ↓gi_4, ↓pi_4, ↓ck_4, ↓gi_7, ↓pi_7, ↓ck_7, ↓gi_10, ↓pi_10, ↓ck_10, ↓gi_34, ↓pi_34, ↓ck_34, ↓gi_39, ↓pi_39, ↓ck_39, ↓gi_45, ↓pi_45, ↓ck_45, ↓gi_49, ↓pi_49, ↓ck_49, j0, j1, j2, j3, j4, j5, j6, j7, j8, j9, j10, j11, j12, j13, j14, j15, j16, j17, j18, j19, j20, j21, j24, j25, j30, j31, j32, j36, j41, j48, j49, j57, j59, j60, j63, j64, j81, j97, j99, j100, j122, j255, j300, j400, j500, j999, j1000, j24000, j_add, j_sub, j_mul, j_neg, j_lt, j_le, j_eq, nI_sI, nR_sI, nN_sI, nI_sR, nR_sR, nN_sR, Int.toNat_natCast, true_and, and_true, false_and, and_false, if_true, if_false, reduceIte, Nat.reduceEqDiff, Option.some.injEq, Prod.mk.injEq, k_of, k_add, k_sub, k_mul, k_neg, lg_ltJ, lg_gtJ, lg_eqJ, b_0, b_J0, b_J1, b_retZ, k0, k1, k2, k3, k10, k19, k20, k30, k40, k999, ↓dayC_b, ↓gsrC_b, ↓tenC_b, ↓zooC_b, ↓isqC_b, Int.add_sub_cancel, not_true, not_false_eq_true, jn1, Bool.false_eq_true, Bool.true_eq_false, reduceCtorEq]
        rw [Nat.sub_self] at y1
        have y1' : fX4_tryTenths 6 49 (J 0) (J 0) w1 = some w2 := y1
        rw [y1']
        simp (disch := first | (simp only [SH_sIi, SH_sLi]; assumption) | assumption | (simp only [nN_sI, nN_sL, nN_sR]; assumption) | omega) only [↓s_nm, ↓s_bnd2, ↓s_some, ↓s_suml, ↓s_sumr, ↓s_nz, ↓gi_q, ↓pi_q, ↓ck_q, ↓gi_gs, ↓gr_gs, ↓g_0_0, ↓g_0_1, ↓g_0_2, ↓g_0_3, ↓g_0_4, ↓g_0_5, ↓g_0_6, ↓g_0_7, ↓g_1_0, ↓g_3_0, ↓g_3_3, ↓g_4_0, ↓g_4_1, ↓g_7_0, ↓g_7_1, ↓g_10_0, ↓g_10_1, ↓g_10_2, ↓g_34_0, ↓g_34_1, ↓g_34_2, ↓g_34_3, ↓g_34_4, ↓g_34_5, ↓g_39_2, ↓g_39_3, ↓g_39_4, ↓g_39_5, ↓g_39_6, ↓g_39_7, ↓g_39_8, ↓g_39_9, ↓g_45_0, ↓g_45_1, ↓g_45_2, ↓g_45_4, ↓g_49_0, ↓g_49_1, ↓g_49_2, ↓g_49_3, ↓g_49_4, ↓g_49_5, ↓g_49_6, ↓al_2, ↓al_5, ↓al_6, ↓al_8, ↓al_9, ↓al_11, ↓al_12, ↓al_13, ↓al_35, ↓al_36, ↓al_37, ↓al_38, ↓al_40, ↓al_41, ↓al_42, ↓al_43, ↓al_44, ↓al_46, ↓al_47, ↓al_48, ↓al_50, ↓al_51, ↓al_52, ↓al_53, ↓al_54, ↓as_2, ↓as_5, ↓as_6, ↓as_8, ↓as_9, ↓as_12, ↓as_13, ↓as_35, ↓as_36, ↓as_37, ↓as_38, ↓as_40, ↓as_41, ↓as_42, ↓as_43, ↓as_44, ↓as_46, ↓as_47, ↓as_48, ↓as_50, ↓as_51, ↓as_52, ↓as_53, ↓as_54, ↓gi_0, ↓pi_0, ↓ck_0, ↓gi_1, ↓pi_1, ↓ck_1, ↓gi_3, ↓pi_3, ↓ck_3, ↓gi_4, ↓pi_4, ↓ck_4, ↓gi_7, ↓pi_7, ↓ck_7, ↓gi_10, ↓pi_10, ↓ck_10, ↓gi_34, ↓pi_34, ↓ck_34, ↓gi_39, ↓pi_39, ↓ck_39, ↓gi_45, ↓pi_45, ↓ck_45, ↓gi_49, ↓pi_49, ↓ck_49, j0, j1, j2, j3, j4, j5, j6, j7, j8, j9, j10, j11, j12, j13, j14, j15, j16, j17, j18, j19, j20, j21, j24, j25, j30, j31, j32, j36, j41, j48, j49, j57, j59, j60, j63, j64, j81, j97, j99, j100, j122, j255, j300, j400, j500, j999, j1000, j24000, j_add, j_sub, j_mul, j_neg, j_lt, j_le, j_eq, nI_sI, nR_sI, nN_sI, nI_sR, nR_sR, nN_sR, Int.toNat_natCast, true_and, and_true, false_and, and_false, if_true, if_false, reduceIte, Nat.reduceEqDiff, Option.some.injEq, Prod.mk.injEq, k_of, k_add, k_sub, k_mul, k_neg, lg_ltJ, lg_gtJ, lg_eqJ, b_0, b_J0, b_J1, b_retZ, k0, k1, k2, k3, k10, k19, k20, k30, k40, k999, ↓dayC_b, ↓gsrC_b, ↓tenC_b, ↓zooC_b, ↓isqC_b, Int.add_sub_cancel, not_true, not_false_eq_true, jn1, Bool.false_eq_true, Bool.true_eq_false, reduceCtorEq]
        rw [z1, s_some, t1]
        simp (disch := first | (simp only [SH_sIi, SH_sLi]; assumption) | assumption | (simp only [nN_sI, nN_sL, nN_sR]; assumption) | omega) only [↓s_nm, ↓s_bnd2, ↓s_some, ↓s_suml, ↓s_sumr, ↓s_nz, ↓gi_q, ↓pi_q, ↓ck_q, ↓gi_gs, ↓gr_gs, ↓g_0_0, ↓g_0_1, ↓g_0_2, ↓g_0_3, ↓g_0_4, ↓g_0_5, ↓g_0_6, ↓g_0_7, ↓g_1_0, ↓g_3_0, ↓g_3_3, ↓g_4_0, ↓g_4_1, ↓g_7_0, ↓g_7_1, ↓g_10_0, ↓g_10_1, ↓g_10_2, ↓g_34_0, ↓g_34_1, ↓g_34_2, ↓g_34_3, ↓g_34_4, ↓g_34_5, ↓g_39_2, ↓g_39_3, ↓g_39_4, ↓g_39_5, ↓g_39_6, ↓g_39_7, ↓g_39_8, ↓g_39_9, ↓g_45_0, ↓g_45_1, ↓g_45_2, ↓g_45_4, ↓g_49_0, ↓g_49_1, ↓g_49_2, ↓g_49_3, ↓g_49_4, ↓g_49_5, ↓g_49_6, ↓al_2, ↓al_5, ↓al_6, ↓al_8, ↓al_9, ↓al_11, ↓al_12, ↓al_13, ↓al_35, ↓al_36, ↓al_37, ↓al_38, ↓al_40, ↓al_41, ↓al_42, ↓al_43, ↓al_44, ↓al_46, ↓al_47, ↓al_48, ↓al_50, ↓al_51, ↓al_52, ↓al_53, ↓al_54, ↓as_2, ↓as_5, ↓as_6, ↓as_8, ↓as_9, ↓as_12, ↓as_13, ↓as_35, ↓as_36, ↓as_37, ↓as_38, ↓as_40, ↓as_41, ↓as_42, ↓as_43, ↓as_44, ↓as_46, ↓as_47, ↓as_48, ↓as_50, ↓as_51, ↓as_52, ↓as_53, ↓as_54, ↓gi_0, ↓pi_0, ↓ck_0, ↓gi_1, ↓pi_1, ↓ck_1, ↓gi_3, ↓pi_3, ↓ck_3, ↓gi_4, ↓pi_4, ↓ck_4, ↓gi_7, ↓pi_7, ↓ck_7, ↓gi_10, ↓pi_10, ↓ck_10, ↓gi_34, ↓pi_34, ↓ck_34, ↓gi_39, ↓pi_39, ↓ck_39, ↓gi_45, ↓pi_45, ↓ck_45, ↓gi_49, ↓pi_49, ↓ck_49, j0, j1, j2, j3, j4, j5, j6, j7, j8, j9, j10, j11, j12, j13, j14, j15, j16, j17, j18, j19, j20, j21, j24, j25, j30, j31, j32, j36, j41, j48, j49, j57, j59, j60, j63, j64, j81, j97, j99, j100, j122, j255, j300, j400, j500, j999, j1000, j24000, j_add, j_sub, j_mul, j_neg, j_lt, j_le, j_eq, nI_sI, nR_sI, nN_sI, nI_sR, nR_sR, nN_sR, Int.toNat_natCast, true_and, and_true, false_and, and_false, if_true, if_false, reduceIte, Nat.reduceEqDiff, Option.some.injEq, Prod.mk.injEq, k_of, k_add, k_sub, k_mul, k_neg, lg_ltJ, lg_gtJ, lg_eqJ, b_0, b_J0, b_J1, b_retZ, k0, k1, k2, k3, k10, k19, k20, k30, k40, k999, ↓dayC_b, ↓gsrC_b, ↓tenC_b, ↓zooC_b, ↓isqC_b, Int.add_sub_cancel, not_true, not_false_eq_true, jn1, Bool.false_eq_true, Bool.true_eq_false, reduceCtorEq, e8]
      · exact ((x2.mono fun a k h => by unfold PMd at h; unfold PLc; omega).trans (y2.mono fun a k h => by unfold PMd at h; unfold PLc; omega)).trans ((z2.mono fun a k h => by unfold PLc; omega).trans (t2.mono fun a k h => by unfold PLc; omega))
      · rw [← est]; exact t3
    · rintro m ⟨r, w⟩ hm ⟨i1, i2, i3⟩
      simp only at i1 i2 i3
      subst i1
      have sw := i2.SH s3
      obtain ⟨q1, q2, q3⟩ := cq_spec n N m hm
      obtain ⟨c, ec⟩ : ∃ c, cq n N m = c := ⟨_, rfl⟩
      rw [ec] at q1 q2 q3
      have h51 : mI w 51 m = J (c : Nat) := by
        rw [i2.2.2 _ _ (by omega), z2.2.2 _ _ (by omega), ← q3]; exact (hX2.2.2.2 c q1 q2).1
      have h54 : mI w 54 m = J (st.2 c) := by
        rw [i2.2.2 _ _ (by omega), z2.2.2 _ _ (by omega), ← q3]; exact y4'.2.2 c q1 q2
      have hw7 : mI w 49 7 = J (pl n N : Nat) := by
        rw [i2.2.2 _ _ (by omega), z2.2.2 _ _ (by omega)]; exact hX2.2.2.1
      refine ⟨(J (m + 1 : Nat), sI w 50 c (J (st.2 c))), ?_, rfl, i2.sI rfl, fun x hx => ?_⟩
      · show bX4_leastChange_57 49 (J m) w = _
        unfold bX4_leastChange_57
        simp (disch := first | (simp only [SH_sIi, SH_sLi]; assumption) | assumption | (simp only [nN_sI, nN_sL, nN_sR]; assumption) | omega) only [↓s_nm, ↓s_bnd2, ↓s_some, ↓s_suml, ↓s_sumr, ↓s_nz, ↓gi_q, ↓pi_q, ↓ck_q, ↓gi_gs, ↓gr_gs, ↓g_0_0, ↓g_0_1, ↓g_0_2, ↓g_0_3, ↓g_0_4, ↓g_0_5, ↓g_0_6, ↓g_0_7, ↓g_1_0, ↓g_3_0, ↓g_3_3, ↓g_4_0, ↓g_4_1, ↓g_7_0, ↓g_7_1, ↓g_10_0, ↓g_10_1, ↓g_10_2, ↓g_34_0, ↓g_34_1, ↓g_34_2, ↓g_34_3, ↓g_34_4, ↓g_34_5, ↓g_39_2, ↓g_39_3, ↓g_39_4, ↓g_39_5, ↓g_39_6, ↓g_39_7, ↓g_39_8, ↓g_39_9, ↓g_45_0, ↓g_45_1, ↓g_45_2, ↓g_45_4, ↓g_49_0, ↓g_49_1, ↓g_49_2, ↓g_49_3, ↓g_49_4, ↓g_49_5, ↓g_49_6, ↓al_2, ↓al_5, ↓al_6, ↓al_8, ↓al_9, ↓al_11, ↓al_12, ↓al_13, ↓al_35, ↓al_36, ↓al_37, ↓al_38, ↓al_40, ↓al_41, ↓al_42, ↓al_43, ↓al_44, ↓al_46, ↓al_47, ↓al_48, ↓al_50, ↓al_51, ↓al_52, ↓al_53, ↓al_54, ↓as_2, ↓as_5, ↓as_6, ↓as_8, ↓as_9, ↓as_12, ↓as_13, ↓as_35, ↓as_36, ↓as_37, ↓as_38, ↓as_40, ↓as_41, ↓as_42, ↓as_43, ↓as_44, ↓as_46, ↓as_47, ↓as_48, ↓as_50, ↓as_51, ↓as_52, ↓as_53, ↓as_54, ↓gi_0, ↓pi_0, ↓ck_0, ↓gi_1, ↓pi_1, ↓ck_1, ↓gi_3, ↓pi_3, ↓ck_3, ↓gi_4, ↓pi_4, ↓ck_4, ↓gi_7, ↓pi_7, ↓ck_7, ↓gi_10, ↓pi_10, ↓ck_10, ↓gi_34, ↓pi_34, ↓ck_34, ↓gi_39, ↓pi_39, ↓ck_39, ↓gi_45, ↓pi_45, ↓ck_45, ↓gi_49, ↓pi_49, ↓ck_49, j0, j1, j2, j3, j4, j5, j6, j7, j8, j9, j10, j11, j12, j13, j14, j15, j16, j17, j18, j19, j20, j21, j24, j25, j30, j31, j32, j36, j41, j48, j49, j57, j59, j60, j63, j64, j81, j97, j99, j100, j122, j255, j300, j400, j500, j999, j1000, j24000, j_add, j_sub, j_mul, j_neg, j_lt, j_le, j_eq, nI_sI, nR_sI, nN_sI, nI_sR, nR_sR, nN_sR, Int.toNat_natCast, true_and, and_true, false_and, and_false, if_true, if_false, reduceIte, Nat.reduceEqDiff, Option.some.injEq, Prod.mk.injEq, k_of, k_add, k_sub, k_mul, k_neg, lg_ltJ, lg_gtJ, lg_eqJ, b_0, b_J0, b_J1, b_retZ, k0, k1, k2, k3, k10, k19, k20, k30, k40, k999, ↓dayC_b, ↓gsrC_b, ↓tenC_b, ↓zooC_b, ↓isqC_b, Int.add_sub_cancel, not_true, not_false_eq_true, jn1, Bool.false_eq_true, Bool.true_eq_false, reduceCtorEq, hw7, show (m : Int) < (pl n N : Nat) by omega, h51, h54]
      · show mI (sI w 50 c _) 50 x = _
        rw [mI_sI]
        by_cases hxc : x = c
        · rw [if_pos ⟨rfl, hxc⟩, hxc, if_pos ⟨q1, q2, by omega⟩]
        · rw [if_neg fun y => hxc y.2, i3 x hx]
          by_cases hx2 : x < N ∧ bt n x = 1 ∧ pl n x < m
          · rw [if_pos hx2, if_pos ⟨hx2.1, hx2.2.1, by omega⟩]
          · rw [if_neg hx2, if_neg]
            rintro ⟨y1, y2, y3⟩
            by_cases hy : pl n x = m
            · exact hxc (pl_inj n y2 q2 (by omega))
            · exact hx2 ⟨y1, y2, by omega⟩
    · rintro ⟨r, w⟩ ⟨i1, i2, i3⟩
      simp only at i1 i2 i3
      subst i1
      have sw := i2.SH s3
      have hw7 : mI w 49 7 = J (pl n N : Nat) := by
        rw [i2.2.2 _ _ (by omega), z2.2.2 _ _ (by omega)]; exact hX2.2.2.1
      refine ⟨w, ?_, i2, fun x hx => ?_⟩
      · show bX4_leastChange_57 49 (J (pl n N : Nat)) w = _
        unfold bX4_leastChange_57
        simp (disch := first | (simp only [SH_sIi, SH_sLi]; assumption) | assumption | (simp only [nN_sI, nN_sL, nN_sR]; assumption) | omega) only [↓s_nm, ↓s_bnd2, ↓s_some, ↓s_suml, ↓s_sumr, ↓s_nz, ↓gi_q, ↓pi_q, ↓ck_q, ↓gi_gs, ↓gr_gs, ↓g_0_0, ↓g_0_1, ↓g_0_2, ↓g_0_3, ↓g_0_4, ↓g_0_5, ↓g_0_6, ↓g_0_7, ↓g_1_0, ↓g_3_0, ↓g_3_3, ↓g_4_0, ↓g_4_1, ↓g_7_0, ↓g_7_1, ↓g_10_0, ↓g_10_1, ↓g_10_2, ↓g_34_0, ↓g_34_1, ↓g_34_2, ↓g_34_3, ↓g_34_4, ↓g_34_5, ↓g_39_2, ↓g_39_3, ↓g_39_4, ↓g_39_5, ↓g_39_6, ↓g_39_7, ↓g_39_8, ↓g_39_9, ↓g_45_0, ↓g_45_1, ↓g_45_2, ↓g_45_4, ↓g_49_0, ↓g_49_1, ↓g_49_2, ↓g_49_3, ↓g_49_4, ↓g_49_5, ↓g_49_6, ↓al_2, ↓al_5, ↓al_6, ↓al_8, ↓al_9, ↓al_11, ↓al_12, ↓al_13, ↓al_35, ↓al_36, ↓al_37, ↓al_38, ↓al_40, ↓al_41, ↓al_42, ↓al_43, ↓al_44, ↓al_46, ↓al_47, ↓al_48, ↓al_50, ↓al_51, ↓al_52, ↓al_53, ↓al_54, ↓as_2, ↓as_5, ↓as_6, ↓as_8, ↓as_9, ↓as_12, ↓as_13, ↓as_35, ↓as_36, ↓as_37, ↓as_38, ↓as_40, ↓as_41, ↓as_42, ↓as_43, ↓as_44, ↓as_46, ↓as_47, ↓as_48, ↓as_50, ↓as_51, ↓as_52, ↓as_53, ↓as_54, ↓gi_0, ↓pi_0, ↓ck_0, ↓gi_1, ↓pi_1, ↓ck_1, ↓gi_3, ↓pi_3, ↓ck_3, ↓gi_4, ↓pi_4, ↓ck_4, ↓gi_7, ↓pi_7, ↓ck_7, ↓gi_10, ↓pi_10, ↓ck_10, ↓gi_34, ↓pi_34, ↓ck_34, ↓gi_39, ↓pi_39, ↓ck_39, ↓gi_45, ↓pi_45, ↓ck_45, ↓gi_49, ↓pi_49, ↓ck_49, j0, j1, j2, j3, j4, j5, j6, j7, j8, j9, j10, j11, j12, j13, j14, j15, j16, j17, j18, j19, j20, j21, j24, j25, j30, j31, j32, j36, j41, j48, j49, j57, j59, j60, j63, j64, j81, j97, j99, j100, j122, j255, j300, j400, j500, j999, j1000, j24000, j_add, j_sub, j_mul, j_neg, j_lt, j_le, j_eq, nI_sI, nR_sI, nN_sI, nI_sR, nR_sR, nN_sR, Int.toNat_natCast, true_and, and_true, false_and, and_false, if_true, if_false, reduceIte, Nat.reduceEqDiff, Option.some.injEq, Prod.mk.injEq, k_of, k_add, k_sub, k_mul, k_neg, lg_ltJ, lg_gtJ, lg_eqJ, b_0, b_J0, b_J1, b_retZ, k0, k1, k2, k3, k10, k19, k20, k30, k40, k999, ↓dayC_b, ↓gsrC_b, ↓tenC_b, ↓zooC_b, ↓isqC_b, Int.add_sub_cancel, not_true, not_false_eq_true, jn1, Bool.false_eq_true, Bool.true_eq_false, reduceCtorEq, hw7, show ¬ (((pl n N : Nat) : Int) < (pl n N : Nat)) by omega]
      · rw [i3 x hx]
        by_cases hx2 : x < N ∧ bt n x = 1
        · rw [if_pos hx2, if_pos ⟨hx2.1, hx2.2, pl_lt n hx2.1 hx2.2⟩]
        · rw [if_neg hx2, if_neg fun y => hx2 ⟨y.1, y.2.1⟩]
  · rintro m ⟨r, w⟩ hm ⟨i1, i2, i3⟩
    simp only at i1 i2 i3
    subst i1
    have hX1 := MC_fr hX0 i2 fun a k h => h
    have sw := hX1.1
    obtain ⟨q1, q2, q3⟩ := cq_spec n N m hm
    have h52 := (hX1.2.2.2 _ q1 q2).2
    rw [q3] at h52
    have hr := hh _ q1 q2
    refine ⟨(J (m + 1 : Nat), sI w 49 8 (J (1 + fq n h (cP n N (m + 1))))), ?_, rfl, i2.sI (by unfold PMd; omega), by show mI (sI w 49 8 _) 49 8 = _; rw [mI_sI, if_pos ⟨rfl, rfl⟩]⟩
    show bX4_leastChange_7 49 (J m) w = _
    unfold bX4_leastChange_7
    rw [cP_s n N h hm, ← Int.add_assoc]
    simp (disch := first | (simp only [SH_sIi, SH_sLi]; assumption) | assumption | (simp only [nN_sI, nN_sL, nN_sR]; assumption) | omega) only [↓s_nm, ↓s_bnd2, ↓s_some, ↓s_suml, ↓s_sumr, ↓s_nz, ↓gi_q, ↓pi_q, ↓ck_q, ↓gi_gs, ↓gr_gs, ↓g_0_0, ↓g_0_1, ↓g_0_2, ↓g_0_3, ↓g_0_4, ↓g_0_5, ↓g_0_6, ↓g_0_7, ↓g_1_0, ↓g_3_0, ↓g_3_3, ↓g_4_0, ↓g_4_1, ↓g_7_0, ↓g_7_1, ↓g_10_0, ↓g_10_1, ↓g_10_2, ↓g_34_0, ↓g_34_1, ↓g_34_2, ↓g_34_3, ↓g_34_4, ↓g_34_5, ↓g_39_2, ↓g_39_3, ↓g_39_4, ↓g_39_5, ↓g_39_6, ↓g_39_7, ↓g_39_8, ↓g_39_9, ↓g_45_0, ↓g_45_1, ↓g_45_2, ↓g_45_4, ↓g_49_0, ↓g_49_1, ↓g_49_2, ↓g_49_3, ↓g_49_4, ↓g_49_5, ↓g_49_6, ↓al_2, ↓al_5, ↓al_6, ↓al_8, ↓al_9, ↓al_11, ↓al_12, ↓al_13, ↓al_35, ↓al_36, ↓al_37, ↓al_38, ↓al_40, ↓al_41, ↓al_42, ↓al_43, ↓al_44, ↓al_46, ↓al_47, ↓al_48, ↓al_50, ↓al_51, ↓al_52, ↓al_53, ↓al_54, ↓as_2, ↓as_5, ↓as_6, ↓as_8, ↓as_9, ↓as_12, ↓as_13, ↓as_35, ↓as_36, ↓as_37, ↓as_38, ↓as_40, ↓as_41, ↓as_42, ↓as_43, ↓as_44, ↓as_46, ↓as_47, ↓as_48, ↓as_50, ↓as_51, ↓as_52, ↓as_53, ↓as_54, ↓gi_0, ↓pi_0, ↓ck_0, ↓gi_1, ↓pi_1, ↓ck_1, ↓gi_3, ↓pi_3, ↓ck_3, ↓gi_4, ↓pi_4, ↓ck_4, ↓gi_7, ↓pi_7, ↓ck_7, ↓gi_10, ↓pi_10, ↓ck_10, ↓gi_34, ↓pi_34, ↓ck_34, ↓gi_39, ↓pi_39, ↓ck_39, ↓gi_45, ↓pi_45, ↓ck_45, ↓gi_49, ↓pi_49, ↓ck_49, j0, j1, j2, j3, j4, j5, j6, j7, j8, j9, j10, j11, j12, j13, j14, j15, j16, j17, j18, j19, j20, j21, j24, j25, j30, j31, j32, j36, j41, j48, j49, j57, j59, j60, j63, j64, j81, j97, j99, j100, j122, j255, j300, j400, j500, j999, j1000, j24000, j_add, j_sub, j_mul, j_neg, j_lt, j_le, j_eq, nI_sI, nR_sI, nN_sI, nI_sR, nR_sR, nN_sR, Int.toNat_natCast, true_and, and_true, false_and, and_false, if_true, if_false, reduceIte, Nat.reduceEqDiff, Option.some.injEq, Prod.mk.injEq, k_of, k_add, k_sub, k_mul, k_neg, lg_ltJ, lg_gtJ, lg_eqJ, b_0, b_J0, b_J1, b_retZ, k0, k1, k2, k3, k10, k19, k20, k30, k40, k999, ↓dayC_b, ↓gsrC_b, ↓tenC_b, ↓zooC_b, ↓isqC_b, Int.add_sub_cancel, not_true, not_false_eq_true, jn1, Bool.false_eq_true, Bool.true_eq_false, reduceCtorEq, hX1.2.2.1, show (m : Int) < (pl n N : Nat) by omega, i3, h52, abI_j]
    rfl
  · rintro ⟨r, w⟩ ⟨i1, i2, i3⟩
    simp only at i1 i2 i3
    subst i1
    have hX1 := MC_fr hX0 i2 fun a k h => h
    have sw := hX1.1
    have e : cP n N (pl n N) = N := by unfold cP; rw [if_neg (by omega)]
    rw [e] at i3
    refine ⟨w, ?_, i2, i3⟩
    show bX4_leastChange_7 49 (J (pl n N : Nat)) w = _
    unfold bX4_leastChange_7
    simp (disch := first | (simp only [SH_sIi, SH_sLi]; assumption) | assumption | (simp only [nN_sI, nN_sL, nN_sR]; assumption) | omega) only [↓s_nm, ↓s_bnd2, ↓s_some, ↓s_suml, ↓s_sumr, ↓s_nz, ↓gi_q, ↓pi_q, ↓ck_q, ↓gi_gs, ↓gr_gs, ↓g_0_0, ↓g_0_1, ↓g_0_2, ↓g_0_3, ↓g_0_4, ↓g_0_5, ↓g_0_6, ↓g_0_7, ↓g_1_0, ↓g_3_0, ↓g_3_3, ↓g_4_0, ↓g_4_1, ↓g_7_0, ↓g_7_1, ↓g_10_0, ↓g_10_1, ↓g_10_2, ↓g_34_0, ↓g_34_1, ↓g_34_2, ↓g_34_3, ↓g_34_4, ↓g_34_5, ↓g_39_2, ↓g_39_3, ↓g_39_4, ↓g_39_5, ↓g_39_6, ↓g_39_7, ↓g_39_8, ↓g_39_9, ↓g_45_0, ↓g_45_1, ↓g_45_2, ↓g_45_4, ↓g_49_0, ↓g_49_1, ↓g_49_2, ↓g_49_3, ↓g_49_4, ↓g_49_5, ↓g_49_6, ↓al_2, ↓al_5, ↓al_6, ↓al_8, ↓al_9, ↓al_11, ↓al_12, ↓al_13, ↓al_35, ↓al_36, ↓al_37, ↓al_38, ↓al_40, ↓al_41, ↓al_42, ↓al_43, ↓al_44, ↓al_46, ↓al_47, ↓al_48, ↓al_50, ↓al_51, ↓al_52, ↓al_53, ↓al_54, ↓as_2, ↓as_5, ↓as_6, ↓as_8, ↓as_9, ↓as_12, ↓as_13, ↓as_35, ↓as_36, ↓as_37, ↓as_38, ↓as_40, ↓as_41, ↓as_42, ↓as_43, ↓as_44, ↓as_46, ↓as_47, ↓as_48, ↓as_50, ↓as_51, ↓as_52, ↓as_53, ↓as_54, ↓gi_0, ↓pi_0, ↓ck_0, ↓gi_1, ↓pi_1, ↓ck_1, ↓gi_3, ↓pi_3, ↓ck_3, ↓gi_4, ↓pi_4, ↓ck_4, ↓gi_7, ↓pi_7, ↓ck_7, ↓gi_10, ↓pi_10, ↓ck_10, ↓gi_34, ↓pi_34, ↓ck_34, ↓gi_39, ↓pi_39, ↓ck_39, ↓gi_45, ↓pi_45, ↓ck_45, ↓gi_49, ↓pi_49, ↓ck_49, j0, j1, j2, j3, j4, j5, j6, j7, j8, j9, j10, j11, j12, j13, j14, j15, j16, j17, j18, j19, j20, j21, j24, j25, j30, j31, j32, j36, j41, j48, j49, j57, j59, j60, j63, j64, j81, j97, j99, j100, j122, j255, j300, j400, j500, j999, j1000, j24000, j_add, j_sub, j_mul, j_neg, j_lt, j_le, j_eq, nI_sI, nR_sI, nN_sI, nI_sR, nR_sR, nN_sR, Int.toNat_natCast, true_and, and_true, false_and, and_false, if_true, if_false, reduceIte, Nat.reduceEqDiff, Option.some.injEq, Prod.mk.injEq, k_of, k_add, k_sub, k_mul, k_neg, lg_ltJ, lg_gtJ, lg_eqJ, b_0, b_J0, b_J1, b_retZ, k0, k1, k2, k3, k10, k19, k20, k30, k40, k999, ↓dayC_b, ↓gsrC_b, ↓tenC_b, ↓zooC_b, ↓isqC_b, Int.add_sub_cancel, not_true, not_false_eq_true, jn1, Bool.false_eq_true, Bool.true_eq_false, reduceCtorEq, hX1.2.2.1, show ¬ (((pl n N : Nat) : Int) < (pl n N : Nat)) by omega]
/-- some question of the set has nothing held -/
def nHd (C : Sp) (n g : Nat) (d : Int) (m : Nat) : Bool := anyN (fun q => decide (bt n q = 1 ∧ hl C g q d = -1)) m
theorem nHd_s (C : Sp) (n g : Nat) (d : Int) (m : Nat) : nHd C n g d (m + 1) = (nHd C n g d m || decide (bt n m = 1 ∧ hl C g m d = -1)) := rfl
theorem wasM (hS : SH u) (hC : OkC C) (hM : RM C D u) (hg : g < 20) (hd0 : 0 ≤ d) (hd : d ≤ 999) (hn : n < 2147483648) : ∃ v, lp (fun s : Int32 × Int32 × Int32 × Mem => bX12_mend_43 55 (J g) (J d) (J (n : Nat)) s.1 s.2.1 s.2.2.1 s.2.2.2) FU ((0 : Int32), (1 : Int32), (0 : Int32), u) = some (J (pl n (nQ C) : Nat), B (nHd C n g d (nQ C) = false), v) ∧ Fr (fun a _ => a = 86) u v ∧ ∀ q, q < nQ C → bt n q = 1 → mI v 86 q = J (hl C g q d) := by
  have hqq := hC.q
  have hlp := lp_inv (f := fun s : Int32 × Int32 × Int32 × Mem => bX12_mend_43 55 (J g) (J d) (J (n : Nat)) s.1 s.2.1 s.2.2.1 s.2.2.2) (E := fun r => r.1 = J (pl n (nQ C) : Nat) ∧ r.2.1 = B (nHd C n g d (nQ C) = false) ∧ Fr (fun a _ => a = 86) u r.2.2 ∧ ∀ q, q < nQ C → bt n q = 1 → mI r.2.2 86 q = J (hl C g q d))
    (fun m s => s.1 = J (pl n m : Nat) ∧ s.2.1 = B (nHd C n g d m = false) ∧ s.2.2.1 = J (m : Nat) ∧ Fr (fun a _ => a = 86) u s.2.2.2 ∧ ∀ q, q < m → bt n q = 1 → mI s.2.2.2 86 q = J (hl C g q d)) (nQ C) (F := FU) (s := ((0 : Int32), (1 : Int32), (0 : Int32), u)) ⟨rfl, rfl, rfl, Fr.rfl, fun q hq => by omega⟩ ?_ ?_ (FU_gt (by omega))
  · obtain ⟨⟨r1, r2, v⟩, e1, e2, e3, e4, e5⟩ := hlp
    simp only at e2 e3 e4 e5
    subst e2
    subst e3
    exact ⟨v, e1, e4, e5⟩
  · rintro m ⟨r1, r2, r3, w⟩ hm ⟨i1, i2, i3, i4, i5⟩
    simp only at i1 i2 i3 i4 i5
    subst i1
    subst i2
    subst i3
    have sw := i4.SH hS
    have hMw := RM_fr i4 (fun a k h => by subst h; rfl) hM
    have hr : -1 ≤ hl C g m d ∧ hl C g m d ≤ 10 := hl_rng hC g m d (Nat.le_refl _)
    have hpm : pl n m ≤ m := by
      have : ∀ x, pl n x ≤ x := by
        intro x
        induction x with
        | zero => exact Nat.le_refl _
        | succ x ih => rw [pl_s]; have := bt_le n x; omega
      exact this m
    by_cases hb : bt n m = 1
    · have hp1 : pl n (m + 1) = pl n m + 1 := by rw [pl_s, hb]
      refine ⟨(J (pl n (m + 1) : Nat), B (nHd C n g d (m + 1) = false), J (m + 1 : Nat), sI w 86 m (J (hl C g m d))), ?_, rfl, rfl, rfl, i4.sI rfl, fun q hq hbq => ?_⟩
      · show bX12_mend_43 55 (J g) (J d) (J (n : Nat)) (J (pl n m : Nat)) (B (nHd C n g d m = false)) (J m) w = _
        unfold bX12_mend_43
        rw [hp1]
        by_cases c1 : nHd C n g d m = false
        · by_cases c2 : hl C g m d = -1
          · have e2 : nHd C n g d (m + 1) = true := by rw [nHd_s, decide_eq_true ⟨hb, c2⟩, Bool.or_true]
            simp (disch := first | (simp only [SH_sIi, SH_sLi]; assumption) | assumption | (simp only [nN_sI, nN_sL, nN_sR]; assumption) | omega) only [↓s_nm, ↓s_bnd2, ↓s_some, ↓s_suml, ↓s_sumr, ↓s_nz, ↓gi_q, ↓pi_q, ↓ck_q, ↓gi_gs, ↓gr_gs, ↓g_55_10, ↓g_55_11, ↓g_55_12, ↓g_55_13, ↓g_55_14, ↓g_55_15, ↓g_55_24, ↓g_55_28, ↓g_55_29, ↓g_55_30, ↓g_55_31, ↓g_55_32, ↓g_55_33, ↓g_55_34, ↓g_55_35, ↓g_55_36, ↓g_55_37, ↓g_55_38, ↓g_55_39, ↓g_55_40, ↓g_55_41, ↓g_55_42, ↓g_55_43, ↓g_55_44, ↓g_55_47, ↓g_55_48, ↓g_55_49, ↓g_55_50, ↓g_55_51, ↓g_55_52, ↓g_55_53, ↓g_55_54, ↓al_56, ↓al_57, ↓al_58, ↓al_59, ↓al_61, ↓al_62, ↓al_63, ↓al_64, ↓al_65, ↓al_66, ↓al_67, ↓al_68, ↓al_69, ↓al_70, ↓al_71, ↓al_72, ↓al_73, ↓al_74, ↓al_75, ↓al_76, ↓al_77, ↓al_78, ↓al_79, ↓al_80, ↓al_81, ↓al_82, ↓al_83, ↓al_84, ↓al_85, ↓al_86, ↓al_87, ↓as_56, ↓as_57, ↓as_58, ↓as_59, ↓as_61, ↓as_62, ↓as_63, ↓as_64, ↓as_65, ↓as_66, ↓as_67, ↓as_68, ↓as_69, ↓as_70, ↓as_71, ↓as_72, ↓as_73, ↓as_74, ↓as_75, ↓as_76, ↓as_77, ↓as_78, ↓as_79, ↓as_80, ↓as_81, ↓as_82, ↓as_83, ↓as_84, ↓as_85, ↓as_86, ↓as_87, ↓gi_55, ↓pi_55, ↓ck_55, ↓gi_60, ↓pi_60, ↓ck_60, j0, j1, j2, j3, j4, j5, j6, j7, j8, j9, j10, j11, j12, j13, j14, j15, j16, j17, j18, j19, j20, j21, j24, j25, j30, j31, j32, j36, j41, j48, j49, j57, j59, j60, j63, j64, j81, j97, j99, j100, j122, j255, j300, j400, j500, j999, j1000, j24000, j_add, j_sub, j_mul, j_neg, j_lt, j_le, j_eq, nI_sI, nR_sI, nN_sI, nI_sR, nR_sR, nN_sR, Int.toNat_natCast, true_and, and_true, false_and, and_false, if_true, if_false, reduceIte, Nat.reduceEqDiff, Option.some.injEq, Prod.mk.injEq, k_of, k_add, k_sub, k_mul, k_neg, lg_ltJ, lg_gtJ, lg_eqJ, b_0, b_J0, b_J1, b_retZ, k0, k1, k2, k3, k10, k19, k20, k30, k40, k999, ↓in_b, ↓dayM_b, ↓gsrM_b, ↓isqM_b, Int.add_sub_cancel, not_true, not_false_eq_true, jn1, Bool.false_eq_true, Bool.true_eq_false, reduceCtorEq, m_55_0 hMw, m_55_1 hMw, m_55_2 hMw, m_55_3 hMw, m_55_4 hMw, m_55_25 hMw, m_55_26 hMw, m_55_16 hMw, m_55_22 hMw, m_55_23 hMw, m_55_27 hMw, m_56 hMw, m_57 hMw, m_63 hMw, m_64 hMw, m_65 hMw, m_66 hMw, m_67 hMw, m_68 hMw, m_69 hMw, m_70 hMw, m_61 hMw, m_71 hMw, m_72 hMw, m_73 hMw, m_84 hMw, show (m : Int) < C 55 25 by omega, bit1 n m hn (by omega) hb, show ¬ ((1 : Int) = 0) by omega, ↓heldM_b, c1, c2, e2]
            rfl
          · have e2 : nHd C n g d (m + 1) = false := by rw [nHd_s, c1, decide_eq_false fun x => c2 x.2]; rfl
            simp (disch := first | (simp only [SH_sIi, SH_sLi]; assumption) | assumption | (simp only [nN_sI, nN_sL, nN_sR]; assumption) | omega) only [↓s_nm, ↓s_bnd2, ↓s_some, ↓s_suml, ↓s_sumr, ↓s_nz, ↓gi_q, ↓pi_q, ↓ck_q, ↓gi_gs, ↓gr_gs, ↓g_55_10, ↓g_55_11, ↓g_55_12, ↓g_55_13, ↓g_55_14, ↓g_55_15, ↓g_55_24, ↓g_55_28, ↓g_55_29, ↓g_55_30, ↓g_55_31, ↓g_55_32, ↓g_55_33, ↓g_55_34, ↓g_55_35, ↓g_55_36, ↓g_55_37, ↓g_55_38, ↓g_55_39, ↓g_55_40, ↓g_55_41, ↓g_55_42, ↓g_55_43, ↓g_55_44, ↓g_55_47, ↓g_55_48, ↓g_55_49, ↓g_55_50, ↓g_55_51, ↓g_55_52, ↓g_55_53, ↓g_55_54, ↓al_56, ↓al_57, ↓al_58, ↓al_59, ↓al_61, ↓al_62, ↓al_63, ↓al_64, ↓al_65, ↓al_66, ↓al_67, ↓al_68, ↓al_69, ↓al_70, ↓al_71, ↓al_72, ↓al_73, ↓al_74, ↓al_75, ↓al_76, ↓al_77, ↓al_78, ↓al_79, ↓al_80, ↓al_81, ↓al_82, ↓al_83, ↓al_84, ↓al_85, ↓al_86, ↓al_87, ↓as_56, ↓as_57, ↓as_58, ↓as_59, ↓as_61, ↓as_62, ↓as_63, ↓as_64, ↓as_65, ↓as_66, ↓as_67, ↓as_68, ↓as_69, ↓as_70, ↓as_71, ↓as_72, ↓as_73, ↓as_74, ↓as_75, ↓as_76, ↓as_77, ↓as_78, ↓as_79, ↓as_80, ↓as_81, ↓as_82, ↓as_83, ↓as_84, ↓as_85, ↓as_86, ↓as_87, ↓gi_55, ↓pi_55, ↓ck_55, ↓gi_60, ↓pi_60, ↓ck_60, j0, j1, j2, j3, j4, j5, j6, j7, j8, j9, j10, j11, j12, j13, j14, j15, j16, j17, j18, j19, j20, j21, j24, j25, j30, j31, j32, j36, j41, j48, j49, j57, j59, j60, j63, j64, j81, j97, j99, j100, j122, j255, j300, j400, j500, j999, j1000, j24000, j_add, j_sub, j_mul, j_neg, j_lt, j_le, j_eq, nI_sI, nR_sI, nN_sI, nI_sR, nR_sR, nN_sR, Int.toNat_natCast, true_and, and_true, false_and, and_false, if_true, if_false, reduceIte, Nat.reduceEqDiff, Option.some.injEq, Prod.mk.injEq, k_of, k_add, k_sub, k_mul, k_neg, lg_ltJ, lg_gtJ, lg_eqJ, b_0, b_J0, b_J1, b_retZ, k0, k1, k2, k3, k10, k19, k20, k30, k40, k999, ↓in_b, ↓dayM_b, ↓gsrM_b, ↓isqM_b, Int.add_sub_cancel, not_true, not_false_eq_true, jn1, Bool.false_eq_true, Bool.true_eq_false, reduceCtorEq, m_55_0 hMw, m_55_1 hMw, m_55_2 hMw, m_55_3 hMw, m_55_4 hMw, m_55_25 hMw, m_55_26 hMw, m_55_16 hMw, m_55_22 hMw, m_55_23 hMw, m_55_27 hMw, m_56 hMw, m_57 hMw, m_63 hMw, m_64 hMw, m_65 hMw, m_66 hMw, m_67 hMw, m_68 hMw, m_69 hMw, m_70 hMw, m_61 hMw, m_71 hMw, m_72 hMw, m_73 hMw, m_84 hMw, show (m : Int) < C 55 25 by omega, bit1 n m hn (by omega) hb, show ¬ ((1 : Int) = 0) by omega, ↓heldM_b, c1, c2, e2]
            rfl
        · have e2 : nHd C n g d (m + 1) = true := by
            rw [nHd_s]
            cases hx : nHd C n g d m with
            | true => rfl
            | false => exact absurd hx c1
          simp (disch := first | (simp only [SH_sIi, SH_sLi]; assumption) | assumption | (simp only [nN_sI, nN_sL, nN_sR]; assumption) | omega) only [↓s_nm, ↓s_bnd2, ↓s_some, ↓s_suml, ↓s_sumr, ↓s_nz, ↓gi_q, ↓pi_q, ↓ck_q, ↓gi_gs, ↓gr_gs, ↓g_55_10, ↓g_55_11, ↓g_55_12, ↓g_55_13, ↓g_55_14, ↓g_55_15, ↓g_55_24, ↓g_55_28, ↓g_55_29, ↓g_55_30, ↓g_55_31, ↓g_55_32, ↓g_55_33, ↓g_55_34, ↓g_55_35, ↓g_55_36, ↓g_55_37, ↓g_55_38, ↓g_55_39, ↓g_55_40, ↓g_55_41, ↓g_55_42, ↓g_55_43, ↓g_55_44, ↓g_55_47, ↓g_55_48, ↓g_55_49, ↓g_55_50, ↓g_55_51, ↓g_55_52, ↓g_55_53, ↓g_55_54, ↓al_56, ↓al_57, ↓al_58, ↓al_59, ↓al_61, ↓al_62, ↓al_63, ↓al_64, ↓al_65, ↓al_66, ↓al_67, ↓al_68, ↓al_69, ↓al_70, ↓al_71, ↓al_72, ↓al_73, ↓al_74, ↓al_75, ↓al_76, ↓al_77, ↓al_78, ↓al_79, ↓al_80, ↓al_81, ↓al_82, ↓al_83, ↓al_84, ↓al_85, ↓al_86, ↓al_87, ↓as_56, ↓as_57, ↓as_58, ↓as_59, ↓as_61, ↓as_62, ↓as_63, ↓as_64, ↓as_65, ↓as_66, ↓as_67, ↓as_68, ↓as_69, ↓as_70, ↓as_71, ↓as_72, ↓as_73, ↓as_74, ↓as_75, ↓as_76, ↓as_77, ↓as_78, ↓as_79, ↓as_80, ↓as_81, ↓as_82, ↓as_83, ↓as_84, ↓as_85, ↓as_86, ↓as_87, ↓gi_55, ↓pi_55, ↓ck_55, ↓gi_60, ↓pi_60, ↓ck_60, j0, j1, j2, j3, j4, j5, j6, j7, j8, j9, j10, j11, j12, j13, j14, j15, j16, j17, j18, j19, j20, j21, j24, j25, j30, j31, j32, j36, j41, j48, j49, j57, j59, j60, j63, j64, j81, j97, j99, j100, j122, j255, j300, j400, j500, j999, j1000, j24000, j_add, j_sub, j_mul, j_neg, j_lt, j_le, j_eq, nI_sI, nR_sI, nN_sI, nI_sR, nR_sR, nN_sR, Int.toNat_natCast, true_and, and_true, false_and, and_false, if_true, if_false, reduceIte, Nat.reduceEqDiff, Option.some.injEq, Prod.mk.injEq, k_of, k_add, k_sub, k_mul, k_neg, lg_ltJ, lg_gtJ, lg_eqJ, b_0, b_J0, b_J1, b_retZ, k0, k1, k2, k3, k10, k19, k20, k30, k40, k999, ↓in_b, ↓dayM_b, ↓gsrM_b, ↓isqM_b, Int.add_sub_cancel, not_true, not_false_eq_true, jn1, Bool.false_eq_true, Bool.true_eq_false, reduceCtorEq, m_55_0 hMw, m_55_1 hMw, m_55_2 hMw, m_55_3 hMw, m_55_4 hMw, m_55_25 hMw, m_55_26 hMw, m_55_16 hMw, m_55_22 hMw, m_55_23 hMw, m_55_27 hMw, m_56 hMw, m_57 hMw, m_63 hMw, m_64 hMw, m_65 hMw, m_66 hMw, m_67 hMw, m_68 hMw, m_69 hMw, m_70 hMw, m_61 hMw, m_71 hMw, m_72 hMw, m_73 hMw, m_84 hMw, show (m : Int) < C 55 25 by omega, bit1 n m hn (by omega) hb, show ¬ ((1 : Int) = 0) by omega, ↓heldM_b, c1, e2]
          rfl
      · show mI (sI w 86 m _) 86 q = _
        rw [mI_sI]
        by_cases hqm : q = m
        · rw [if_pos ⟨rfl, hqm⟩, hqm]
        · rw [if_neg fun x => hqm x.2]; exact i5 q (by omega) hbq
    · have hb0 : bt n m = 0 := by have := bt_le n m; omega
      have hp1 : pl n (m + 1) = pl n m := by rw [pl_s, hb0]; omega
      have e2 : nHd C n g d (m + 1) = nHd C n g d m := by rw [nHd_s, decide_eq_false fun x => hb x.1, Bool.or_false]
      refine ⟨(J (pl n (m + 1) : Nat), B (nHd C n g d (m + 1) = false), J (m + 1 : Nat), w), ?_, rfl, rfl, rfl, i4, fun q hq hbq => ?_⟩
      · show bX12_mend_43 55 (J g) (J d) (J (n : Nat)) (J (pl n m : Nat)) (B (nHd C n g d m = false)) (J m) w = _
        unfold bX12_mend_43
        simp only [e2]
        rw [hp1]
        simp (disch := first | (simp only [SH_sIi, SH_sLi]; assumption) | assumption | (simp only [nN_sI, nN_sL, nN_sR]; assumption) | omega) only [↓s_nm, ↓s_bnd2, ↓s_some, ↓s_suml, ↓s_sumr, ↓s_nz, ↓gi_q, ↓pi_q, ↓ck_q, ↓gi_gs, ↓gr_gs, ↓g_55_10, ↓g_55_11, ↓g_55_12, ↓g_55_13, ↓g_55_14, ↓g_55_15, ↓g_55_24, ↓g_55_28, ↓g_55_29, ↓g_55_30, ↓g_55_31, ↓g_55_32, ↓g_55_33, ↓g_55_34, ↓g_55_35, ↓g_55_36, ↓g_55_37, ↓g_55_38, ↓g_55_39, ↓g_55_40, ↓g_55_41, ↓g_55_42, ↓g_55_43, ↓g_55_44, ↓g_55_47, ↓g_55_48, ↓g_55_49, ↓g_55_50, ↓g_55_51, ↓g_55_52, ↓g_55_53, ↓g_55_54, ↓al_56, ↓al_57, ↓al_58, ↓al_59, ↓al_61, ↓al_62, ↓al_63, ↓al_64, ↓al_65, ↓al_66, ↓al_67, ↓al_68, ↓al_69, ↓al_70, ↓al_71, ↓al_72, ↓al_73, ↓al_74, ↓al_75, ↓al_76, ↓al_77, ↓al_78, ↓al_79, ↓al_80, ↓al_81, ↓al_82, ↓al_83, ↓al_84, ↓al_85, ↓al_86, ↓al_87, ↓as_56, ↓as_57, ↓as_58, ↓as_59, ↓as_61, ↓as_62, ↓as_63, ↓as_64, ↓as_65, ↓as_66, ↓as_67, ↓as_68, ↓as_69, ↓as_70, ↓as_71, ↓as_72, ↓as_73, ↓as_74, ↓as_75, ↓as_76, ↓as_77, ↓as_78, ↓as_79, ↓as_80, ↓as_81, ↓as_82, ↓as_83, ↓as_84, ↓as_85, ↓as_86, ↓as_87, ↓gi_55, ↓pi_55, ↓ck_55, ↓gi_60, ↓pi_60, ↓ck_60, j0, j1, j2, j3, j4, j5, j6, j7, j8, j9, j10, j11, j12, j13, j14, j15, j16, j17, j18, j19, j20, j21, j24, j25, j30, j31, j32, j36, j41, j48, j49, j57, j59, j60, j63, j64, j81, j97, j99, j100, j122, j255, j300, j400, j500, j999, j1000, j24000, j_add, j_sub, j_mul, j_neg, j_lt, j_le, j_eq, nI_sI, nR_sI, nN_sI, nI_sR, nR_sR, nN_sR, Int.toNat_natCast, true_and, and_true, false_and, and_false, if_true, if_false, reduceIte, Nat.reduceEqDiff, Option.some.injEq, Prod.mk.injEq, k_of, k_add, k_sub, k_mul, k_neg, lg_ltJ, lg_gtJ, lg_eqJ, b_0, b_J0, b_J1, b_retZ, k0, k1, k2, k3, k10, k19, k20, k30, k40, k999, ↓in_b, ↓dayM_b, ↓gsrM_b, ↓isqM_b, Int.add_sub_cancel, not_true, not_false_eq_true, jn1, Bool.false_eq_true, Bool.true_eq_false, reduceCtorEq, m_55_0 hMw, m_55_1 hMw, m_55_2 hMw, m_55_3 hMw, m_55_4 hMw, m_55_25 hMw, m_55_26 hMw, m_55_16 hMw, m_55_22 hMw, m_55_23 hMw, m_55_27 hMw, m_56 hMw, m_57 hMw, m_63 hMw, m_64 hMw, m_65 hMw, m_66 hMw, m_67 hMw, m_68 hMw, m_69 hMw, m_70 hMw, m_61 hMw, m_71 hMw, m_72 hMw, m_73 hMw, m_84 hMw, show (m : Int) < C 55 25 by omega, bit0 n m hn (by omega) hb0]
      · refine i5 q ?_ hbq
        by_cases hqm : q = m
        · subst hqm; omega
        · omega
  · rintro ⟨r1, r2, r3, w⟩ ⟨i1, i2, i3, i4, i5⟩
    simp only at i1 i2 i3 i4 i5
    subst i1
    subst i2
    subst i3
    have sw := i4.SH hS
    have hMw := RM_fr i4 (fun a k h => by subst h; rfl) hM
    refine ⟨(J (pl n (nQ C) : Nat), B (nHd C n g d (nQ C) = false), w), ?_, rfl, rfl, i4, i5⟩
    show bX12_mend_43 55 (J g) (J d) (J (n : Nat)) (J (pl n (nQ C) : Nat)) (B (nHd C n g d (nQ C) = false)) (J (nQ C : Nat)) w = _
    unfold bX12_mend_43
    simp (disch := first | (simp only [SH_sIi, SH_sLi]; assumption) | assumption | (simp only [nN_sI, nN_sL, nN_sR]; assumption) | omega) only [↓s_nm, ↓s_bnd2, ↓s_some, ↓s_suml, ↓s_sumr, ↓s_nz, ↓gi_q, ↓pi_q, ↓ck_q, ↓gi_gs, ↓gr_gs, ↓g_55_10, ↓g_55_11, ↓g_55_12, ↓g_55_13, ↓g_55_14, ↓g_55_15, ↓g_55_24, ↓g_55_28, ↓g_55_29, ↓g_55_30, ↓g_55_31, ↓g_55_32, ↓g_55_33, ↓g_55_34, ↓g_55_35, ↓g_55_36, ↓g_55_37, ↓g_55_38, ↓g_55_39, ↓g_55_40, ↓g_55_41, ↓g_55_42, ↓g_55_43, ↓g_55_44, ↓g_55_47, ↓g_55_48, ↓g_55_49, ↓g_55_50, ↓g_55_51, ↓g_55_52, ↓g_55_53, ↓g_55_54, ↓al_56, ↓al_57, ↓al_58, ↓al_59, ↓al_61, ↓al_62, ↓al_63, ↓al_64, ↓al_65, ↓al_66, ↓al_67, ↓al_68, ↓al_69, ↓al_70, ↓al_71, ↓al_72, ↓al_73, ↓al_74, ↓al_75, ↓al_76, ↓al_77, ↓al_78, ↓al_79, ↓al_80, ↓al_81, ↓al_82, ↓al_83, ↓al_84, ↓al_85, ↓al_86, ↓al_87, ↓as_56, ↓as_57, ↓as_58, ↓as_59, ↓as_61, ↓as_62, ↓as_63, ↓as_64, ↓as_65, ↓as_66, ↓as_67, ↓as_68, ↓as_69, ↓as_70, ↓as_71, ↓as_72, ↓as_73, ↓as_74, ↓as_75, ↓as_76, ↓as_77, ↓as_78, ↓as_79, ↓as_80, ↓as_81, ↓as_82, ↓as_83, ↓as_84, ↓as_85, ↓as_86, ↓as_87, ↓gi_55, ↓pi_55, ↓ck_55, ↓gi_60, ↓pi_60, ↓ck_60, j0, j1, j2, j3, j4, j5, j6, j7, j8, j9, j10, j11, j12, j13, j14, j15, j16, j17, j18, j19, j20, j21, j24, j25, j30, j31, j32, j36, j41, j48, j49, j57, j59, j60, j63, j64, j81, j97, j99, j100, j122, j255, j300, j400, j500, j999, j1000, j24000, j_add, j_sub, j_mul, j_neg, j_lt, j_le, j_eq, nI_sI, nR_sI, nN_sI, nI_sR, nR_sR, nN_sR, Int.toNat_natCast, true_and, and_true, false_and, and_false, if_true, if_false, reduceIte, Nat.reduceEqDiff, Option.some.injEq, Prod.mk.injEq, k_of, k_add, k_sub, k_mul, k_neg, lg_ltJ, lg_gtJ, lg_eqJ, b_0, b_J0, b_J1, b_retZ, k0, k1, k2, k3, k10, k19, k20, k30, k40, k999, ↓in_b, ↓dayM_b, ↓gsrM_b, ↓isqM_b, Int.add_sub_cancel, not_true, not_false_eq_true, jn1, Bool.false_eq_true, Bool.true_eq_false, reduceCtorEq, m_55_0 hMw, m_55_1 hMw, m_55_2 hMw, m_55_3 hMw, m_55_4 hMw, m_55_25 hMw, m_55_26 hMw, m_55_16 hMw, m_55_22 hMw, m_55_23 hMw, m_55_27 hMw, m_56 hMw, m_57 hMw, m_63 hMw, m_64 hMw, m_65 hMw, m_66 hMw, m_67 hMw, m_68 hMw, m_69 hMw, m_70 hMw, m_61 hMw, m_71 hMw, m_72 hMw, m_73 hMw, m_84 hMw, show ¬ (((nQ C : Nat) : Int) < C 55 25) by omega]
end MEND2
