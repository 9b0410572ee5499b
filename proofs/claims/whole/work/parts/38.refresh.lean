/-! costs: refresh -/
theorem rowN_rng {C : Sp} (hC : OkC C) {g q : Nat} (hq : q < nQ C) : 0 ≤ rowN C g q ∧ rowN C g q ≤ 60 := by
  have er := ed_rng hC hq
  have h := sm_rng (f := fun d => if rowOn C g q d = -1 then 0 else 1) (a := C 63 q) (lo := 0) (hi := 1) (lenR C q) fun d _ _ => by split <;> omega
  unfold rowN
  omega
theorem rowS_rng {C : Sp} (hC : OkC C) {g q : Nat} (hq : q < nQ C) : 0 ≤ rowS C g q ∧ rowS C g q ≤ 60000 := by
  have er := ed_rng hC hq
  have h := sm_rng (f := fun d => if rowOn C g q d = -1 then 0 else rowOn C g q d) (a := C 63 q) (lo := 0) (hi := 1000) (lenR C q) fun d _ _ => by
    have := rowOn_rng hC g q d
    split <;> omega
  unfold rowS
  omega
theorem totN_rng {C : Sp} (hC : OkC C) (g : Nat) {m : Nat} (hm : m ≤ nQ C) : 0 ≤ sumN (fun q => if cnts C g q = true then rowN C g q else 0) m ∧ sumN (fun q => if cnts C g q = true then rowN C g q else 0) m ≤ 1200 := by
  have hq := hC.q
  have h := sumN_rng (f := fun q => if cnts C g q = true then rowN C g q else 0) (lo := 0) (hi := 60) m fun k hk => by
    have := rowN_rng hC (g := g) (q := k) (by omega)
    split <;> omega
  omega
theorem totS_rng {C : Sp} (hC : OkC C) (g : Nat) {m : Nat} (hm : m ≤ nQ C) : 0 ≤ sumN (fun q => if cnts C g q = true then rowS C g q else 0) m ∧ sumN (fun q => if cnts C g q = true then rowS C g q else 0) m ≤ 1200000 := by
  have hq := hC.q
  have h := sumN_rng (f := fun q => if cnts C g q = true then rowS C g q else 0) (lo := 0) (hi := 60000) m fun k hk => by
    have := rowS_rng hC (g := g) (q := k) (by omega)
    split <;> omega
  omega
def PG (g a k : Nat) : Prop := ((a = 35 ∨ a = 36) ∧ g * 20 ≤ k ∧ k < g * 20 + 20) ∨ ((a = 37 ∨ a = 38) ∧ k = g)
theorem PG_le {g a k : Nat} (h : PG g a k) : 34 ≤ a ∧ a ≤ 44 := by unfold PG at h; omega
section REFRESH
variable {C D : Sp} {n : Nat} {u u' : Mem} {β : Type} {g q c : Nat} {d a b t N S : Int}
theorem cntC (hS : SH u) (hC : OkC C) (hA : RCa C D u) (hg : g < 20) (hq : q < nQ C) (hN : mI u 35 (g * 20 + q) = J (rowN C g q)) {f : Int32 → Option β} : (fX1_doesCount 34 (J (g * 20 + q : Nat)) u).bind f = f (B (cnts C g q = true)) := by
  have hqq := hC.q
  have r := rowN_rng hC (g := g) hq
  have hl := hC.2.2.2.2.2.2.2.2.2
  refine b_bind ?_
  unfold fX1_doesCount cnts
  simp (disch := first | assumption | (simp only [SH_sI, SH_sL]; assumption) | (simp only [mN_sI, mN_sL, mN_sR]; assumption) | omega) only [↓s_nm, ↓s_bnd2, ↓s_some, ↓s_suml, ↓s_sumr, ↓s_nz, ↓gi_q, ↓pi_q, ↓ck_q, ↓gi_gs, ↓gr_gs, ↓g_0_0, ↓g_0_1, ↓g_0_2, ↓g_0_3, ↓g_0_4, ↓g_0_5, ↓g_0_6, ↓g_0_7, ↓g_1_0, ↓g_3_0, ↓g_3_3, ↓g_4_0, ↓g_4_1, ↓g_7_0, ↓g_7_1, ↓g_10_0, ↓g_10_1, ↓g_10_2, ↓g_34_0, ↓g_34_1, ↓g_34_2, ↓g_34_3, ↓g_34_4, ↓g_34_5, ↓g_39_2, ↓g_39_3, ↓g_39_4, ↓g_39_5, ↓g_39_6, ↓g_39_7, ↓g_39_8, ↓g_39_9, ↓g_45_0, ↓g_45_1, ↓g_45_2, ↓g_45_4, ↓g_49_0, ↓g_49_1, ↓g_49_2, ↓g_49_3, ↓g_49_4, ↓g_49_5, ↓g_49_6, ↓al_2, ↓al_5, ↓al_6, ↓al_8, ↓al_9, ↓al_11, ↓al_12, ↓al_13, ↓al_35, ↓al_36, ↓al_37, ↓al_38, ↓al_40, ↓al_41, ↓al_42, ↓al_43, ↓al_44, ↓al_46, ↓al_47, ↓al_48, ↓al_50, ↓al_51, ↓al_52, ↓al_53, ↓al_54, ↓as_2, ↓as_5, ↓as_6, ↓as_8, ↓as_9, ↓as_12, ↓as_13, ↓as_35, ↓as_36, ↓as_37, ↓as_38, ↓as_40, ↓as_41, ↓as_42, ↓as_43, ↓as_44, ↓as_46, ↓as_47, ↓as_48, ↓as_50, ↓as_51, ↓as_52, ↓as_53, ↓as_54, ↓gi_0, ↓pi_0, ↓ck_0, ↓gi_1, ↓pi_1, ↓ck_1, ↓gi_3, ↓pi_3, ↓ck_3, ↓gi_4, ↓pi_4, ↓ck_4, ↓gi_7, ↓pi_7, ↓ck_7, ↓gi_10, ↓pi_10, ↓ck_10, ↓gi_34, ↓pi_34, ↓ck_34, ↓gi_39, ↓pi_39, ↓ck_39, ↓gi_45, ↓pi_45, ↓ck_45, ↓gi_49, ↓pi_49, ↓ck_49, j0, j1, j2, j3, j4, j5, j6, j7, j8, j9, j10, j11, j12, j13, j14, j15, j16, j17, j18, j19, j20, j21, j24, j25, j30, j31, j32, j36, j41, j48, j49, j57, j59, j60, j63, j64, j81, j97, j99, j100, j122, j255, j300, j400, j500, j999, j1000, j24000, j_add, j_sub, j_mul, j_neg, j_lt, j_le, j_eq, mI_sI, mR_sI, mN_sI, mI_sR, mR_sR, mN_sR, Int.toNat_natCast, true_and, and_true, false_and, and_false, if_true, if_false, reduceIte, Nat.reduceEqDiff, Option.some.injEq, Prod.mk.injEq, k_of, k_add, k_sub, k_mul, k_neg, lg_lt, lg_gt, lg_eq, b_0, b_J0, b_J1, b_retZ, k0, k1, k2, k3, k10, k19, k20, k30, k40, k999, ↓dayC_b, ↓gsrC_b, ↓tenC_b, ↓zooC_b, ↓isqC_b, Int.add_sub_cancel, not_true, not_false_eq_true, jn1, Bool.false_eq_true, Bool.true_eq_false, reduceCtorEq, hN, a_least hA, decide_eq_true_eq]
  by_cases h : rowN C g q < C 55 4
  · rw [if_pos h, b_f (by omega)]; rfl
  · rw [if_neg h, b_t (by omega)]; rfl
theorem totC (hS : SH u) (hC : OkC C) (hA : RCa C D u) (hg : g < 20) (hq : q < nQ C) (hN : mI u 35 (g * 20 + q) = J (rowN C g q)) (hT : mI u 36 (g * 20 + q) = J (rowS C g q)) {f : Mem → Option β} : (fX1_addToTotal 34 (J g) (J (g * 20 + q : Nat)) u).bind f = f (if cnts C g q = true then sI (sI u 37 g (mI u 37 g + J (rowN C g q))) 38 g (mI u 38 g + J (rowS C g q)) else u) := by
  have hqq := hC.q
  unfold fX1_addToTotal
  by_cases h : cnts C g q = true
  · simp (disch := first | assumption | (simp only [SH_sI, SH_sL]; assumption) | (simp only [mN_sI, mN_sL, mN_sR]; assumption) | omega) only [↓s_nm, ↓s_bnd2, ↓s_some, ↓s_suml, ↓s_sumr, ↓s_nz, ↓gi_q, ↓pi_q, ↓ck_q, ↓gi_gs, ↓gr_gs, ↓g_0_0, ↓g_0_1, ↓g_0_2, ↓g_0_3, ↓g_0_4, ↓g_0_5, ↓g_0_6, ↓g_0_7, ↓g_1_0, ↓g_3_0, ↓g_3_3, ↓g_4_0, ↓g_4_1, ↓g_7_0, ↓g_7_1, ↓g_10_0, ↓g_10_1, ↓g_10_2, ↓g_34_0, ↓g_34_1, ↓g_34_2, ↓g_34_3, ↓g_34_4, ↓g_34_5, ↓g_39_2, ↓g_39_3, ↓g_39_4, ↓g_39_5, ↓g_39_6, ↓g_39_7, ↓g_39_8, ↓g_39_9, ↓g_45_0, ↓g_45_1, ↓g_45_2, ↓g_45_4, ↓g_49_0, ↓g_49_1, ↓g_49_2, ↓g_49_3, ↓g_49_4, ↓g_49_5, ↓g_49_6, ↓al_2, ↓al_5, ↓al_6, ↓al_8, ↓al_9, ↓al_11, ↓al_12, ↓al_13, ↓al_35, ↓al_36, ↓al_37, ↓al_38, ↓al_40, ↓al_41, ↓al_42, ↓al_43, ↓al_44, ↓al_46, ↓al_47, ↓al_48, ↓al_50, ↓al_51, ↓al_52, ↓al_53, ↓al_54, ↓as_2, ↓as_5, ↓as_6, ↓as_8, ↓as_9, ↓as_12, ↓as_13, ↓as_35, ↓as_36, ↓as_37, ↓as_38, ↓as_40, ↓as_41, ↓as_42, ↓as_43, ↓as_44, ↓as_46, ↓as_47, ↓as_48, ↓as_50, ↓as_51, ↓as_52, ↓as_53, ↓as_54, ↓gi_0, ↓pi_0, ↓ck_0, ↓gi_1, ↓pi_1, ↓ck_1, ↓gi_3, ↓pi_3, ↓ck_3, ↓gi_4, ↓pi_4, ↓ck_4, ↓gi_7, ↓pi_7, ↓ck_7, ↓gi_10, ↓pi_10, ↓ck_10, ↓gi_34, ↓pi_34, ↓ck_34, ↓gi_39, ↓pi_39, ↓ck_39, ↓gi_45, ↓pi_45, ↓ck_45, ↓gi_49, ↓pi_49, ↓ck_49, j0, j1, j2, j3, j4, j5, j6, j7, j8, j9, j10, j11, j12, j13, j14, j15, j16, j17, j18, j19, j20, j21, j24, j25, j30, j31, j32, j36, j41, j48, j49, j57, j59, j60, j63, j64, j81, j97, j99, j100, j122, j255, j300, j400, j500, j999, j1000, j24000, j_add, j_sub, j_mul, j_neg, j_lt, j_le, j_eq, mI_sI, mR_sI, mN_sI, mI_sR, mR_sR, mN_sR, Int.toNat_natCast, true_and, and_true, false_and, and_false, if_true, if_false, reduceIte, Nat.reduceEqDiff, Option.some.injEq, Prod.mk.injEq, k_of, k_add, k_sub, k_mul, k_neg, lg_lt, lg_gt, lg_eq, b_0, b_J0, b_J1, b_retZ, k0, k1, k2, k3, k10, k19, k20, k30, k40, k999, ↓dayC_b, ↓gsrC_b, ↓tenC_b, ↓zooC_b, ↓isqC_b, Int.add_sub_cancel, not_true, not_false_eq_true, jn1, Bool.false_eq_true, Bool.true_eq_false, reduceCtorEq, ↓cntC, h, hN, hT]
  · simp (disch := first | assumption | (simp only [SH_sI, SH_sL]; assumption) | (simp only [mN_sI, mN_sL, mN_sR]; assumption) | omega) only [↓s_nm, ↓s_bnd2, ↓s_some, ↓s_suml, ↓s_sumr, ↓s_nz, ↓gi_q, ↓pi_q, ↓ck_q, ↓gi_gs, ↓gr_gs, ↓g_0_0, ↓g_0_1, ↓g_0_2, ↓g_0_3, ↓g_0_4, ↓g_0_5, ↓g_0_6, ↓g_0_7, ↓g_1_0, ↓g_3_0, ↓g_3_3, ↓g_4_0, ↓g_4_1, ↓g_7_0, ↓g_7_1, ↓g_10_0, ↓g_10_1, ↓g_10_2, ↓g_34_0, ↓g_34_1, ↓g_34_2, ↓g_34_3, ↓g_34_4, ↓g_34_5, ↓g_39_2, ↓g_39_3, ↓g_39_4, ↓g_39_5, ↓g_39_6, ↓g_39_7, ↓g_39_8, ↓g_39_9, ↓g_45_0, ↓g_45_1, ↓g_45_2, ↓g_45_4, ↓g_49_0, ↓g_49_1, ↓g_49_2, ↓g_49_3, ↓g_49_4, ↓g_49_5, ↓g_49_6, ↓al_2, ↓al_5, ↓al_6, ↓al_8, ↓al_9, ↓al_11, ↓al_12, ↓al_13, ↓al_35, ↓al_36, ↓al_37, ↓al_38, ↓al_40, ↓al_41, ↓al_42, ↓al_43, ↓al_44, ↓al_46, ↓al_47, ↓al_48, ↓al_50, ↓al_51, ↓al_52, ↓al_53, ↓al_54, ↓as_2, ↓as_5, ↓as_6, ↓as_8, ↓as_9, ↓as_12, ↓as_13, ↓as_35, ↓as_36, ↓as_37, ↓as_38, ↓as_40, ↓as_41, ↓as_42, ↓as_43, ↓as_44, ↓as_46, ↓as_47, ↓as_48, ↓as_50, ↓as_51, ↓as_52, ↓as_53, ↓as_54, ↓gi_0, ↓pi_0, ↓ck_0, ↓gi_1, ↓pi_1, ↓ck_1, ↓gi_3, ↓pi_3, ↓ck_3, ↓gi_4, ↓pi_4, ↓ck_4, ↓gi_7, ↓pi_7, ↓ck_7, ↓gi_10, ↓pi_10, ↓ck_10, ↓gi_34, ↓pi_34, ↓ck_34, ↓gi_39, ↓pi_39, ↓ck_39, ↓gi_45, ↓pi_45, ↓ck_45, ↓gi_49, ↓pi_49, ↓ck_49, j0, j1, j2, j3, j4, j5, j6, j7, j8, j9, j10, j11, j12, j13, j14, j15, j16, j17, j18, j19, j20, j21, j24, j25, j30, j31, j32, j36, j41, j48, j49, j57, j59, j60, j63, j64, j81, j97, j99, j100, j122, j255, j300, j400, j500, j999, j1000, j24000, j_add, j_sub, j_mul, j_neg, j_lt, j_le, j_eq, mI_sI, mR_sI, mN_sI, mI_sR, mR_sR, mN_sR, Int.toNat_natCast, true_and, and_true, false_and, and_false, if_true, if_false, reduceIte, Nat.reduceEqDiff, Option.some.injEq, Prod.mk.injEq, k_of, k_add, k_sub, k_mul, k_neg, lg_lt, lg_gt, lg_eq, b_0, b_J0, b_J1, b_retZ, k0, k1, k2, k3, k10, k19, k20, k30, k40, k999, ↓dayC_b, ↓gsrC_b, ↓tenC_b, ↓zooC_b, ↓isqC_b, Int.add_sub_cancel, not_true, not_false_eq_true, jn1, Bool.false_eq_true, Bool.true_eq_false, reduceCtorEq, ↓cntC, h]
theorem rfr_in (hS : SH u) (hC : OkC C) (hA : RCa C D u) (hQ : RCq C u) (hG : RCg C u) (hg : g < 20) (h37 : mI u 37 g = J 0) (h38 : mI u 38 g = J 0) : ∃ v, lp (fun s : Int32 × Mem => bX1_refresh_50 34 (J g) s.1 s.2) FU ((0 : Int32), u) = some v ∧ Fr (PG g) u v ∧ (∀ q, q < nQ C → mI v 35 (g * 20 + q) = J (rowN C g q) ∧ mI v 36 (g * 20 + q) = J (rowS C g q)) ∧ mI v 37 g = J (totN C g) ∧ mI v 38 g = J (totS C g) := by
  have hqq := hC.q
  refine lp_inv (f := fun s : Int32 × Mem => bX1_refresh_50 34 (J g) s.1 s.2) (E := fun v => Fr (PG g) u v ∧ (∀ q, q < nQ C → mI v 35 (g * 20 + q) = J (rowN C g q) ∧ mI v 36 (g * 20 + q) = J (rowS C g q)) ∧ mI v 37 g = J (totN C g) ∧ mI v 38 g = J (totS C g))
    (fun m s => s.1 = J (m : Nat) ∧ Fr (PG g) u s.2 ∧ (∀ q, q < m → mI s.2 35 (g * 20 + q) = J (rowN C g q) ∧ mI s.2 36 (g * 20 + q) = J (rowS C g q)) ∧ mI s.2 37 g = J (sumN (fun q => if cnts C g q = true then rowN C g q else 0) m) ∧ mI s.2 38 g = J (sumN (fun q => if cnts C g q = true then rowS C g q else 0) m)) (nQ C) ⟨rfl, Fr.rfl, fun q hq => by omega, h37, h38⟩ ?_ ?_ (FU_gt (by omega))
  · rintro m ⟨s, v⟩ hm ⟨e1, e2, e3, e4, e5⟩
    simp only at e1 e2 e3 e4 e5
    subst e1
    have sv := e2.SH hS
    have hA1 := RCa_fr e2 (fun _ _ => PG_le) hA
    have hQ1 := RCq_fr e2 (fun _ _ => PG_le) hC hQ
    have hG1 := RCg_fr e2 (fun _ _ => PG_le) hG
    obtain ⟨v1, x1, x2, x3, x4⟩ := fillC (g := g) (q := m) sv hC hA1 hQ1 hG1 hg hm rfl
    have x2' : Fr (PG g) v v1 := x2.mono fun a k h => by unfold PR at h; unfold PG; omega
    have sv1 := x2.SH sv
    have hA2 := RCa_fr x2 (fun _ _ => PR_le) hA1
    have ec : (g : Int) * 20 + (m : Int) = ((g * 20 + m : Nat) : Int) := by omega
    have e4' : mI v1 37 g = J (sumN (fun q => if cnts C g q = true then rowN C g q else 0) m) := by rw [x2.2.2 _ _ (by unfold PR; omega)]; exact e4
    have e5' : mI v1 38 g = J (sumN (fun q => if cnts C g q = true then rowS C g q else 0) m) := by rw [x2.2.2 _ _ (by unfold PR; omega)]; exact e5
    have hb : bX1_refresh_50 34 (J g) (J m) v = some (.inl (J (m + 1 : Nat), if cnts C g m = true then sI (sI v1 37 g (mI v1 37 g + J (rowN C g m))) 38 g (mI v1 38 g + J (rowS C g m)) else v1)) := by
      unfold bX1_refresh_50 fX10_cell
      simp (disch := first | assumption | (simp only [SH_sI, SH_sL]; assumption) | (simp only [mN_sI, mN_sL, mN_sR]; assumption) | omega) only [↓s_nm, ↓s_bnd2, ↓s_some, ↓s_suml, ↓s_sumr, ↓s_nz, ↓gi_q, ↓pi_q, ↓ck_q, ↓gi_gs, ↓gr_gs, ↓g_0_0, ↓g_0_1, ↓g_0_2, ↓g_0_3, ↓g_0_4, ↓g_0_5, ↓g_0_6, ↓g_0_7, ↓g_1_0, ↓g_3_0, ↓g_3_3, ↓g_4_0, ↓g_4_1, ↓g_7_0, ↓g_7_1, ↓g_10_0, ↓g_10_1, ↓g_10_2, ↓g_34_0, ↓g_34_1, ↓g_34_2, ↓g_34_3, ↓g_34_4, ↓g_34_5, ↓g_39_2, ↓g_39_3, ↓g_39_4, ↓g_39_5, ↓g_39_6, ↓g_39_7, ↓g_39_8, ↓g_39_9, ↓g_45_0, ↓g_45_1, ↓g_45_2, ↓g_45_4, ↓g_49_0, ↓g_49_1, ↓g_49_2, ↓g_49_3, ↓g_49_4, ↓g_49_5, ↓g_49_6, ↓al_2, ↓al_5, ↓al_6, ↓al_8, ↓al_9, ↓al_11, ↓al_12, ↓al_13, ↓al_35, ↓al_36, ↓al_37, ↓al_38, ↓al_40, ↓al_41, ↓al_42, ↓al_43, ↓al_44, ↓al_46, ↓al_47, ↓al_48, ↓al_50, ↓al_51, ↓al_52, ↓al_53, ↓al_54, ↓as_2, ↓as_5, ↓as_6, ↓as_8, ↓as_9, ↓as_12, ↓as_13, ↓as_35, ↓as_36, ↓as_37, ↓as_38, ↓as_40, ↓as_41, ↓as_42, ↓as_43, ↓as_44, ↓as_46, ↓as_47, ↓as_48, ↓as_50, ↓as_51, ↓as_52, ↓as_53, ↓as_54, ↓gi_0, ↓pi_0, ↓ck_0, ↓gi_1, ↓pi_1, ↓ck_1, ↓gi_3, ↓pi_3, ↓ck_3, ↓gi_4, ↓pi_4, ↓ck_4, ↓gi_7, ↓pi_7, ↓ck_7, ↓gi_10, ↓pi_10, ↓ck_10, ↓gi_34, ↓pi_34, ↓ck_34, ↓gi_39, ↓pi_39, ↓ck_39, ↓gi_45, ↓pi_45, ↓ck_45, ↓gi_49, ↓pi_49, ↓ck_49, j0, j1, j2, j3, j4, j5, j6, j7, j8, j9, j10, j11, j12, j13, j14, j15, j16, j17, j18, j19, j20, j21, j24, j25, j30, j31, j32, j36, j41, j48, j49, j57, j59, j60, j63, j64, j81, j97, j99, j100, j122, j255, j300, j400, j500, j999, j1000, j24000, j_add, j_sub, j_mul, j_neg, j_lt, j_le, j_eq, mI_sI, mR_sI, mN_sI, mI_sR, mR_sR, mN_sR, Int.toNat_natCast, true_and, and_true, false_and, and_false, if_true, if_false, reduceIte, Nat.reduceEqDiff, Option.some.injEq, Prod.mk.injEq, k_of, k_add, k_sub, k_mul, k_neg, lg_lt, lg_gt, lg_eq, b_0, b_J0, b_J1, b_retZ, k0, k1, k2, k3, k10, k19, k20, k30, k40, k999, ↓dayC_b, ↓gsrC_b, ↓tenC_b, ↓zooC_b, ↓isqC_b, Int.add_sub_cancel, not_true, not_false_eq_true, jn1, Bool.false_eq_true, Bool.true_eq_false, reduceCtorEq, a_nq hA1, show (m : Int) < C 55 25 by omega, ec]
      rw [x1]
      simp (disch := first | assumption | (simp only [SH_sI, SH_sL]; assumption) | (simp only [mN_sI, mN_sL, mN_sR]; assumption) | omega) only [↓s_nm, ↓s_bnd2, ↓s_some, ↓s_suml, ↓s_sumr, ↓s_nz, ↓gi_q, ↓pi_q, ↓ck_q, ↓gi_gs, ↓gr_gs, ↓g_0_0, ↓g_0_1, ↓g_0_2, ↓g_0_3, ↓g_0_4, ↓g_0_5, ↓g_0_6, ↓g_0_7, ↓g_1_0, ↓g_3_0, ↓g_3_3, ↓g_4_0, ↓g_4_1, ↓g_7_0, ↓g_7_1, ↓g_10_0, ↓g_10_1, ↓g_10_2, ↓g_34_0, ↓g_34_1, ↓g_34_2, ↓g_34_3, ↓g_34_4, ↓g_34_5, ↓g_39_2, ↓g_39_3, ↓g_39_4, ↓g_39_5, ↓g_39_6, ↓g_39_7, ↓g_39_8, ↓g_39_9, ↓g_45_0, ↓g_45_1, ↓g_45_2, ↓g_45_4, ↓g_49_0, ↓g_49_1, ↓g_49_2, ↓g_49_3, ↓g_49_4, ↓g_49_5, ↓g_49_6, ↓al_2, ↓al_5, ↓al_6, ↓al_8, ↓al_9, ↓al_11, ↓al_12, ↓al_13, ↓al_35, ↓al_36, ↓al_37, ↓al_38, ↓al_40, ↓al_41, ↓al_42, ↓al_43, ↓al_44, ↓al_46, ↓al_47, ↓al_48, ↓al_50, ↓al_51, ↓al_52, ↓al_53, ↓al_54, ↓as_2, ↓as_5, ↓as_6, ↓as_8, ↓as_9, ↓as_12, ↓as_13, ↓as_35, ↓as_36, ↓as_37, ↓as_38, ↓as_40, ↓as_41, ↓as_42, ↓as_43, ↓as_44, ↓as_46, ↓as_47, ↓as_48, ↓as_50, ↓as_51, ↓as_52, ↓as_53, ↓as_54, ↓gi_0, ↓pi_0, ↓ck_0, ↓gi_1, ↓pi_1, ↓ck_1, ↓gi_3, ↓pi_3, ↓ck_3, ↓gi_4, ↓pi_4, ↓ck_4, ↓gi_7, ↓pi_7, ↓ck_7, ↓gi_10, ↓pi_10, ↓ck_10, ↓gi_34, ↓pi_34, ↓ck_34, ↓gi_39, ↓pi_39, ↓ck_39, ↓gi_45, ↓pi_45, ↓ck_45, ↓gi_49, ↓pi_49, ↓ck_49, j0, j1, j2, j3, j4, j5, j6, j7, j8, j9, j10, j11, j12, j13, j14, j15, j16, j17, j18, j19, j20, j21, j24, j25, j30, j31, j32, j36, j41, j48, j49, j57, j59, j60, j63, j64, j81, j97, j99, j100, j122, j255, j300, j400, j500, j999, j1000, j24000, j_add, j_sub, j_mul, j_neg, j_lt, j_le, j_eq, mI_sI, mR_sI, mN_sI, mI_sR, mR_sR, mN_sR, Int.toNat_natCast, true_and, and_true, false_and, and_false, if_true, if_false, reduceIte, Nat.reduceEqDiff, Option.some.injEq, Prod.mk.injEq, k_of, k_add, k_sub, k_mul, k_neg, lg_lt, lg_gt, lg_eq, b_0, b_J0, b_J1, b_retZ, k0, k1, k2, k3, k10, k19, k20, k30, k40, k999, ↓dayC_b, ↓gsrC_b, ↓tenC_b, ↓zooC_b, ↓isqC_b, Int.add_sub_cancel, not_true, not_false_eq_true, jn1, Bool.false_eq_true, Bool.true_eq_false, reduceCtorEq, ec]
      rw [totC sv1 hC hA2 hg hm x3 x4]
    refine ⟨_, hb, rfl, ?_, fun q hq => ?_, ?_, ?_⟩
    · show Fr (PG g) u (if _ then _ else _)
      by_cases h : cnts C g m = true
      · rw [if_pos h]; exact ((e2.trans x2').sI (by unfold PG; omega)).sI (by unfold PG; omega)
      · rw [if_neg h]; exact e2.trans x2'
    · have hx : mI v1 35 (g * 20 + q) = J (rowN C g q) ∧ mI v1 36 (g * 20 + q) = J (rowS C g q) := by
        by_cases hqm : q = m
        · subst hqm; exact ⟨x3, x4⟩
        · rw [x2.2.2 _ _ (by unfold PR; omega), x2.2.2 _ _ (by unfold PR; omega)]
          exact e3 q (by omega)
      show mI (if _ then _ else _) _ _ = _ ∧ mI (if _ then _ else _) _ _ = _
      by_cases h : cnts C g m = true
      · rw [if_pos h]
        simpa [mI_sI] using hx
      · rw [if_neg h]; exact hx
    · show mI (if _ then _ else _) _ _ = _
      rw [sumN]
      by_cases h : cnts C g m = true
      · rw [if_pos h, if_pos h]
        simp [mI_sI, e4', j_add]
      · rw [if_neg h, if_neg h, e4']; congr 1; omega
    · show mI (if _ then _ else _) _ _ = _
      rw [sumN]
      by_cases h : cnts C g m = true
      · rw [if_pos h, if_pos h]
        simp [mI_sI, e5', j_add]
      · rw [if_neg h, if_neg h, e5']; congr 1; omega
  · rintro ⟨s, v⟩ ⟨e1, e2, e3, e4, e5⟩
    simp only at e1 e2 e3 e4 e5
    subst e1
    have sv := e2.SH hS
    have hA1 := RCa_fr e2 (fun _ _ => PG_le) hA
    refine ⟨v, ?_, e2, e3, e4, e5⟩
    show bX1_refresh_50 34 (J g) (J (nQ C : Nat)) v = _
    unfold bX1_refresh_50
    simp (disch := first | assumption | (simp only [SH_sI, SH_sL]; assumption) | (simp only [mN_sI, mN_sL, mN_sR]; assumption) | omega) only [↓s_nm, ↓s_bnd2, ↓s_some, ↓s_suml, ↓s_sumr, ↓s_nz, ↓gi_q, ↓pi_q, ↓ck_q, ↓gi_gs, ↓gr_gs, ↓g_0_0, ↓g_0_1, ↓g_0_2, ↓g_0_3, ↓g_0_4, ↓g_0_5, ↓g_0_6, ↓g_0_7, ↓g_1_0, ↓g_3_0, ↓g_3_3, ↓g_4_0, ↓g_4_1, ↓g_7_0, ↓g_7_1, ↓g_10_0, ↓g_10_1, ↓g_10_2, ↓g_34_0, ↓g_34_1, ↓g_34_2, ↓g_34_3, ↓g_34_4, ↓g_34_5, ↓g_39_2, ↓g_39_3, ↓g_39_4, ↓g_39_5, ↓g_39_6, ↓g_39_7, ↓g_39_8, ↓g_39_9, ↓g_45_0, ↓g_45_1, ↓g_45_2, ↓g_45_4, ↓g_49_0, ↓g_49_1, ↓g_49_2, ↓g_49_3, ↓g_49_4, ↓g_49_5, ↓g_49_6, ↓al_2, ↓al_5, ↓al_6, ↓al_8, ↓al_9, ↓al_11, ↓al_12, ↓al_13, ↓al_35, ↓al_36, ↓al_37, ↓al_38, ↓al_40, ↓al_41, ↓al_42, ↓al_43, ↓al_44, ↓al_46, ↓al_47, ↓al_48, ↓al_50, ↓al_51, ↓al_52, ↓al_53, ↓al_54, ↓as_2, ↓as_5, ↓as_6, ↓as_8, ↓as_9, ↓as_12, ↓as_13, ↓as_35, ↓as_36, ↓as_37, ↓as_38, ↓as_40, ↓as_41, ↓as_42, ↓as_43, ↓as_44, ↓as_46, ↓as_47, ↓as_48, ↓as_50, ↓as_51, ↓as_52, ↓as_53, ↓as_54, ↓gi_0, ↓pi_0, ↓ck_0, ↓gi_1, ↓pi_1, ↓ck_1, ↓gi_3, ↓pi_3, ↓ck_3, ↓gi_4, ↓pi_4, ↓ck_4, ↓gi_7, ↓pi_7, ↓ck_7, ↓gi_10, ↓pi_10, ↓ck_10, ↓gi_34, ↓pi_34, ↓ck_34, ↓gi_39, ↓pi_39, ↓ck_39, ↓gi_45, ↓pi_45, ↓ck_45, ↓gi_49, ↓pi_49, ↓ck_49, j0, j1, j2, j3, j4, j5, j6, j7, j8, j9, j10, j11, j12, j13, j14, j15, j16, j17, j18, j19, j20, j21, j24, j25, j30, j31, j32, j36, j41, j48, j49, j57, j59, j60, j63, j64, j81, j97, j99, j100, j122, j255, j300, j400, j500, j999, j1000, j24000, j_add, j_sub, j_mul, j_neg, j_lt, j_le, j_eq, mI_sI, mR_sI, mN_sI, mI_sR, mR_sR, mN_sR, Int.toNat_natCast, true_and, and_true, false_and, and_false, if_true, if_false, reduceIte, Nat.reduceEqDiff, Option.some.injEq, Prod.mk.injEq, k_of, k_add, k_sub, k_mul, k_neg, lg_lt, lg_gt, lg_eq, b_0, b_J0, b_J1, b_retZ, k0, k1, k2, k3, k10, k19, k20, k30, k40, k999, ↓dayC_b, ↓gsrC_b, ↓tenC_b, ↓zooC_b, ↓isqC_b, Int.add_sub_cancel, not_true, not_false_eq_true, jn1, Bool.false_eq_true, Bool.true_eq_false, reduceCtorEq, a_nq hA1, show ¬ (((nQ C : Nat) : Int) < C 55 25) by omega]
def PT (a _k : Nat) : Prop := 35 ≤ a ∧ a ≤ 38
theorem PT_le {a k : Nat} (h : PT a k) : 34 ≤ a ∧ a ≤ 44 := by unfold PT at h; omega
theorem rfr_out (hS : SH u) (hC : OkC C) (hA : RCa C D u) (hQ : RCq C u) (hG : RCg C u) : ∃ v, lp (fun s : Int32 × Mem => bX1_refresh_28 34 s.1 s.2) FU ((0 : Int32), u) = some v ∧ Fr PT u v ∧ CostOK C v := by
  have hqq := hC.q
  refine lp_inv (f := fun s : Int32 × Mem => bX1_refresh_28 34 s.1 s.2) (E := fun v => Fr PT u v ∧ CostOK C v)
    (fun m s => s.1 = J (m : Nat) ∧ Fr PT u s.2 ∧ ∀ g, g < m → (∀ q, q < nQ C → mI s.2 35 (g * 20 + q) = J (rowN C g q) ∧ mI s.2 36 (g * 20 + q) = J (rowS C g q)) ∧ mI s.2 37 g = J (totN C g) ∧ mI s.2 38 g = J (totS C g)) 20 ⟨rfl, Fr.rfl, fun q hq => by omega⟩ ?_ ?_ (FU_gt (by omega))
  · rintro m ⟨s, v⟩ hm ⟨e1, e2, e3⟩
    simp only at e1 e2 e3
    subst e1
    have sv : SH (sI (sI v 37 m (J 0)) 38 m (J 0)) := e2.SH hS
    have f1 : Fr (PG m) v (sI (sI v 37 m (J 0)) 38 m (J 0)) := (Fr.rfl.sI (by unfold PG; omega)).sI (by unfold PG; omega)
    have f2 := e2.trans (f1.mono fun a k h => by unfold PG at h; unfold PT; omega)
    have hA1 := RCa_fr f2 (fun _ _ => PT_le) hA
    have hQ1 := RCq_fr f2 (fun _ _ => PT_le) hC hQ
    have hG1 := RCg_fr f2 (fun _ _ => PT_le) hG
    obtain ⟨v1, x1, x2, x3, x4, x5⟩ := rfr_in (g := m) sv hC hA1 hQ1 hG1 hm (by simp [mI_sI]) (by simp [mI_sI])
    have hv : SH v := e2.SH hS
    have x6 := f1.trans x2
    refine ⟨(J (m + 1 : Nat), v1), ?_, rfl, e2.trans (x6.mono fun a k h => by unfold PG at h; unfold PT; omega), fun g hg => ?_⟩
    · show bX1_refresh_28 34 (J m) v = _
      unfold bX1_refresh_28
      rw [show (20 : Int32) = J 20 from rfl, if_pos ((j_lt _ _ (by omega) (by omega) (by omega) (by omega)).mpr (show (m : Int) < 20 by omega)), g_34_4 hv, show (J ((m : Nat) : Int)) = J ((m : Nat) : Int) from rfl, as_37 hv (by omega) (by omega), Int.toNat_natCast, g_34_5 (u := sI v 37 m 0) hv, as_38 (u := sI v 37 m 0) hv (by omega) (by omega), Int.toNat_natCast]
      have x1' : lp (fun s : Int32 × Mem => bX1_refresh_50 34 (J m) s.1 s.2) FU ((0 : Int32), sI (sI v 37 m 0) 38 m 0) = some v1 := x1
      rw [x1']
      simp only [s_some, s_nm, j1, j_add, jn1]
    · by_cases hgm : g = m
      · subst hgm; exact ⟨x3, x4, x5⟩
      · obtain ⟨y1, y2, y3⟩ := e3 g (by omega)
        refine ⟨fun q hq => ?_, ?_, ?_⟩
        · show mI v1 _ _ = _ ∧ mI v1 _ _ = _
          rw [x6.2.2 _ _ (by unfold PG; omega), x6.2.2 _ _ (by unfold PG; omega)]
          exact y1 q hq
        · show mI v1 _ _ = _
          rw [x6.2.2 _ _ (by unfold PG; omega)]; exact y2
        · show mI v1 _ _ = _
          rw [x6.2.2 _ _ (by unfold PG; omega)]; exact y3
  · rintro ⟨s, v⟩ ⟨e1, e2, e3⟩
    simp only at e1 e2 e3
    subst e1
    refine ⟨v, rfl, e2, fun g q hg hq => (e3 g hg).1 q hq, fun g hg => (e3 g hg).2⟩
/-- the tables are right after refresh -/
theorem refreshC (hS : SH u) (hC : OkC C) (hR : RC C D n u) (hn : n < 2147483000) : ∃ v, fX1_refresh 34 u = some v ∧ SH v ∧ FrC u v ∧ RC C D n v ∧ CostOK C v ∧ Fr (fun a _ => 34 ≤ a ∧ a ≤ 38) u v := by
  obtain ⟨hA, hQ, hG, hV⟩ := hR
  have hV0 := hV
  obtain ⟨v, s1, s2, h1, h2, h3, h4, h5, h6, h7, h8, h9, h10, h11⟩ := hV
  by_cases hs : s1 = v
  · refine ⟨u, ?_, hS, FrC.rfl, ⟨hA, hQ, hG, hV0⟩, h10 hs, Fr.rfl⟩
    unfold fX1_refresh
    simp (disch := first | assumption | (simp only [SH_sI, SH_sL]; assumption) | (simp only [mN_sI, mN_sL, mN_sR]; assumption) | omega) only [↓s_nm, ↓s_bnd2, ↓s_some, ↓s_suml, ↓s_sumr, ↓s_nz, ↓gi_q, ↓pi_q, ↓ck_q, ↓gi_gs, ↓gr_gs, ↓g_0_0, ↓g_0_1, ↓g_0_2, ↓g_0_3, ↓g_0_4, ↓g_0_5, ↓g_0_6, ↓g_0_7, ↓g_1_0, ↓g_3_0, ↓g_3_3, ↓g_4_0, ↓g_4_1, ↓g_7_0, ↓g_7_1, ↓g_10_0, ↓g_10_1, ↓g_10_2, ↓g_34_0, ↓g_34_1, ↓g_34_2, ↓g_34_3, ↓g_34_4, ↓g_34_5, ↓g_39_2, ↓g_39_3, ↓g_39_4, ↓g_39_5, ↓g_39_6, ↓g_39_7, ↓g_39_8, ↓g_39_9, ↓g_45_0, ↓g_45_1, ↓g_45_2, ↓g_45_4, ↓g_49_0, ↓g_49_1, ↓g_49_2, ↓g_49_3, ↓g_49_4, ↓g_49_5, ↓g_49_6, ↓al_2, ↓al_5, ↓al_6, ↓al_8, ↓al_9, ↓al_11, ↓al_12, ↓al_13, ↓al_35, ↓al_36, ↓al_37, ↓al_38, ↓al_40, ↓al_41, ↓al_42, ↓al_43, ↓al_44, ↓al_46, ↓al_47, ↓al_48, ↓al_50, ↓al_51, ↓al_52, ↓al_53, ↓al_54, ↓as_2, ↓as_5, ↓as_6, ↓as_8, ↓as_9, ↓as_12, ↓as_13, ↓as_35, ↓as_36, ↓as_37, ↓as_38, ↓as_40, ↓as_41, ↓as_42, ↓as_43, ↓as_44, ↓as_46, ↓as_47, ↓as_48, ↓as_50, ↓as_51, ↓as_52, ↓as_53, ↓as_54, ↓gi_0, ↓pi_0, ↓ck_0, ↓gi_1, ↓pi_1, ↓ck_1, ↓gi_3, ↓pi_3, ↓ck_3, ↓gi_4, ↓pi_4, ↓ck_4, ↓gi_7, ↓pi_7, ↓ck_7, ↓gi_10, ↓pi_10, ↓ck_10, ↓gi_34, ↓pi_34, ↓ck_34, ↓gi_39, ↓pi_39, ↓ck_39, ↓gi_45, ↓pi_45, ↓ck_45, ↓gi_49, ↓pi_49, ↓ck_49, j0, j1, j2, j3, j4, j5, j6, j7, j8, j9, j10, j11, j12, j13, j14, j15, j16, j17, j18, j19, j20, j21, j24, j25, j30, j31, j32, j36, j41, j48, j49, j57, j59, j60, j63, j64, j81, j97, j99, j100, j122, j255, j300, j400, j500, j999, j1000, j24000, j_add, j_sub, j_mul, j_neg, j_lt, j_le, j_eq, mI_sI, mR_sI, mN_sI, mI_sR, mR_sR, mN_sR, Int.toNat_natCast, true_and, and_true, false_and, and_false, if_true, if_false, reduceIte, Nat.reduceEqDiff, Option.some.injEq, Prod.mk.injEq, k_of, k_add, k_sub, k_mul, k_neg, lg_lt, lg_gt, lg_eq, b_0, b_J0, b_J1, b_retZ, k0, k1, k2, k3, k10, k19, k20, k30, k40, k999, ↓dayC_b, ↓gsrC_b, ↓tenC_b, ↓zooC_b, ↓isqC_b, Int.add_sub_cancel, not_true, not_false_eq_true, jn1, Bool.false_eq_true, Bool.true_eq_false, reduceCtorEq, h1, h2, hs]
  · have f1 : Fr (fun a _ => 34 ≤ a ∧ a ≤ 38) u (sI u 34 6 (J v)) := Fr.rfl.sI (by omega)
    have hA1 := RCa_fr f1 (fun _ _ h => by omega) hA
    have hQ1 := RCq_fr f1 (fun _ _ h => by omega) hC hQ
    have hG1 := RCg_fr f1 (fun _ _ h => by omega) hG
    have hS1 : SH (sI u 34 6 (J v)) := hS
    obtain ⟨w, x1, x2, x3⟩ := rfr_out hS1 hC hA1 hQ1 hG1
    have f2 := f1.trans (x2.mono fun a k h => by unfold PT at h; omega)
    refine ⟨w, ?_, f2.SH hS, fun a k ha hb => f2.2.2 a k (by omega), ⟨RCa_fr f2 (fun _ _ h => by omega) hA, RCq_fr f2 (fun _ _ h => by omega) hC hQ, RCg_fr f2 (fun _ _ h => by omega) hG, ?_⟩, x3, f2⟩
    · unfold fX1_refresh
      simp (disch := first | assumption | (simp only [SH_sI, SH_sL]; assumption) | (simp only [mN_sI, mN_sL, mN_sR]; assumption) | omega) only [↓s_nm, ↓s_bnd2, ↓s_some, ↓s_suml, ↓s_sumr, ↓s_nz, ↓gi_q, ↓pi_q, ↓ck_q, ↓gi_gs, ↓gr_gs, ↓g_0_0, ↓g_0_1, ↓g_0_2, ↓g_0_3, ↓g_0_4, ↓g_0_5, ↓g_0_6, ↓g_0_7, ↓g_1_0, ↓g_3_0, ↓g_3_3, ↓g_4_0, ↓g_4_1, ↓g_7_0, ↓g_7_1, ↓g_10_0, ↓g_10_1, ↓g_10_2, ↓g_34_0, ↓g_34_1, ↓g_34_2, ↓g_34_3, ↓g_34_4, ↓g_34_5, ↓g_39_2, ↓g_39_3, ↓g_39_4, ↓g_39_5, ↓g_39_6, ↓g_39_7, ↓g_39_8, ↓g_39_9, ↓g_45_0, ↓g_45_1, ↓g_45_2, ↓g_45_4, ↓g_49_0, ↓g_49_1, ↓g_49_2, ↓g_49_3, ↓g_49_4, ↓g_49_5, ↓g_49_6, ↓al_2, ↓al_5, ↓al_6, ↓al_8, ↓al_9, ↓al_11, ↓al_12, ↓al_13, ↓al_35, ↓al_36, ↓al_37, ↓al_38, ↓al_40, ↓al_41, ↓al_42, ↓al_43, ↓al_44, ↓al_46, ↓al_47, ↓al_48, ↓al_50, ↓al_51, ↓al_52, ↓al_53, ↓al_54, ↓as_2, ↓as_5, ↓as_6, ↓as_8, ↓as_9, ↓as_12, ↓as_13, ↓as_35, ↓as_36, ↓as_37, ↓as_38, ↓as_40, ↓as_41, ↓as_42, ↓as_43, ↓as_44, ↓as_46, ↓as_47, ↓as_48, ↓as_50, ↓as_51, ↓as_52, ↓as_53, ↓as_54, ↓gi_0, ↓pi_0, ↓ck_0, ↓gi_1, ↓pi_1, ↓ck_1, ↓gi_3, ↓pi_3, ↓ck_3, ↓gi_4, ↓pi_4, ↓ck_4, ↓gi_7, ↓pi_7, ↓ck_7, ↓gi_10, ↓pi_10, ↓ck_10, ↓gi_34, ↓pi_34, ↓ck_34, ↓gi_39, ↓pi_39, ↓ck_39, ↓gi_45, ↓pi_45, ↓ck_45, ↓gi_49, ↓pi_49, ↓ck_49, j0, j1, j2, j3, j4, j5, j6, j7, j8, j9, j10, j11, j12, j13, j14, j15, j16, j17, j18, j19, j20, j21, j24, j25, j30, j31, j32, j36, j41, j48, j49, j57, j59, j60, j63, j64, j81, j97, j99, j100, j122, j255, j300, j400, j500, j999, j1000, j24000, j_add, j_sub, j_mul, j_neg, j_lt, j_le, j_eq, mI_sI, mR_sI, mN_sI, mI_sR, mR_sR, mN_sR, Int.toNat_natCast, true_and, and_true, false_and, and_false, if_true, if_false, reduceIte, Nat.reduceEqDiff, Option.some.injEq, Prod.mk.injEq, k_of, k_add, k_sub, k_mul, k_neg, lg_lt, lg_gt, lg_eq, b_0, b_J0, b_J1, b_retZ, k0, k1, k2, k3, k10, k19, k20, k30, k40, k999, ↓dayC_b, ↓gsrC_b, ↓tenC_b, ↓zooC_b, ↓isqC_b, Int.add_sub_cancel, not_true, not_false_eq_true, jn1, Bool.false_eq_true, Bool.true_eq_false, reduceCtorEq, h1, h2, hs]
      have x1' : lp (fun s : Int32 × Mem => bX1_refresh_28 34 s.1 s.2) FU (J 0, sI u 34 6 (J v)) = some w := x1
      rw [x1']
      rfl
    · refine ⟨v, v, s2, by rw [f2.2.2 _ _ (by omega)]; exact h1, ?_, by rw [f2.2.2 _ _ (by omega)]; exact h3, h4, h5, by omega, Int.le_refl _, h8, h9, fun _ => x3, fun h => ⟨CopOK_eq (h11 h).1 fun k => f2.2.2 _ _ (by omega), JndOK_eq (h11 h).2 fun k => f2.2.2 _ _ (by omega)⟩⟩
      rw [x2.2.2 _ _ (by unfold PT; omega)]
      simp [mI_sI]
end REFRESH
