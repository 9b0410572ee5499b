/-! the class's crowd: copiers, refresh -/
theorem ofNat_J (N : Nat) : Int32.ofNat N = J (N : Nat) := by
  unfold J
  first | rfl | (apply Int32.toBitVec.inj; simp) | simp
section CROWD
variable {C D : Sp} {n : Nat} {u u' : Mem} {β : Type} {g o k : Nat} {a b d z : Int} {P : Nat → Nat → Prop} {l : List Nat}
theorem fillA {a N : Nat} (hS : SH u) (hk : KO a 20 = true) (hN : (KF a).2 = N) (hN2 : N ≤ 2000) : ∃ v, fJ7_fill_53178 (some a) (J z) u = some v ∧ Fr (fun b _ => b = a) u v ∧ ∀ k, k < N → mI v a k = J z := by
  have h := lp_inv (f := fun s : Int32 × Mem => bJ7_fill_53178_5 (some a) (J z) (J (N : Nat)) s.1 s.2) (E := fun v => Fr (fun b _ => b = a) u v ∧ ∀ k, k < N → mI v a k = J z)
    (fun m s => s.1 = J (m : Nat) ∧ Fr (fun b _ => b = a) u s.2 ∧ ∀ k, k < m → mI s.2 a k = J z) N (F := FU) (s := ((0 : Int32), u)) ⟨rfl, Fr.rfl, fun k hk => by omega⟩ ?_ ?_ (FU_gt (by omega))
  · obtain ⟨v, e1, h⟩ := h
    refine ⟨v, ?_, h⟩
    unfold fJ7_fill_53178 aln
    rw [Option.bind_some, if_pos (okF hS hk), hN, ofNat_J N, s_some, e1]
    rfl
  · rintro m ⟨s, v⟩ hm ⟨e1, e2, e3⟩
    simp only at e1 e2 e3
    subst e1
    have sv := e2.SH hS
    refine ⟨(J (m + 1 : Nat), sI v a m (J z)), ?_, rfl, e2.sI rfl, fun k hk => ?_⟩
    · show bJ7_fill_53178_5 (some a) (J z) (J (N : Nat)) (J m) v = _
      unfold bJ7_fill_53178_5
      rw [if_pos ((j_lt _ _ (by omega) (by omega) (by omega) (by omega)).mpr (show (m : Int) < N by omega)), s_asI (okF sv hk) hN (by omega) (by omega) (by omega)]
      simp only [s_nm, j1, j_add, jn1, Int.toNat_natCast]
    · show mI (sI v a m _) a k = _
      by_cases h : k = m
      · rw [mI_sI, if_pos ⟨rfl, h⟩]
      · rw [mI_sI, if_neg (by omega)]; exact e3 k (by omega)
  · rintro ⟨s, v⟩ ⟨e1, e2, e3⟩
    simp only at e1 e2 e3
    subst e1
    refine ⟨v, ?_, e2, e3⟩
    show bJ7_fill_53178_5 (some a) (J z) (J (N : Nat)) (J (N : Nat)) v = _
    unfold bJ7_fill_53178_5
    rw [if_neg]
    rw [j_lt _ _ (by omega) (by omega) (by omega) (by omega)]
    omega
def zinv (C : Sp) (l : List Nat) (g o p : Nat) (z : Int) : Prop := if o = g then z = 1000 else (cN C l g o p < C 55 3 ∧ z = 1000) ∨ ∃ i, i < p ∧ cN C l g o i < C 55 3 ∧ C 55 3 ≤ cN C l g o (i + 1) ∧ z = C 69 (l.getD i 0)
def celOK (C : Sp) (l : List Nat) (u : Mem) (g o p : Nat) : Prop := mI u 41 (g * 20 + o) = J (if o = g then 0 else cN C l g o p) ∧ ∃ z, mI u 40 (g * 20 + o) = J z ∧ zinv C l g o p z
theorem celOK_skip {p : Nat} (h : celOK C l u g o p) (hn : o = g ∨ ¬ (C 67 (l.getD p 0) = g ∧ isCp C (l.getD p 0) o = true)) : celOK C l u g o (p + 1) := by
  obtain ⟨h1, z, h2, h3⟩ := h
  unfold celOK zinv at *
  by_cases hog : o = g
  · rw [if_pos hog] at h1 h3
    rw [if_pos hog]
    exact ⟨h1, z, h2, by rw [if_pos hog]; exact h3⟩
  · rw [if_neg hog] at h1 h3
    have e : cN C l g o (p + 1) = cN C l g o p := by
      rw [cN_s, if_neg (hn.resolve_left hog), Int.add_zero]
    rw [if_neg hog, e]
    refine ⟨h1, z, h2, ?_⟩
    rw [if_neg hog]
    rcases h3 with h3 | ⟨i, i1, i2⟩
    · exact Or.inl h3
    · exact Or.inr ⟨i, by omega, i2⟩
def P4 (a _k : Nat) : Prop := a = 40 ∨ a = 41
theorem P4_le {a k : Nat} (h : P4 a k) : 34 ≤ a ∧ a ≤ 44 := by unfold P4 at h; omega
theorem noteC {p : Nat} (hS : SH u) (hC : OkC C) (hA : RCa C D u) (hG : RCg C u) (hL : LD C u l) (hp : p < nG C) (ho : o < 20) (hg : C 67 (l.getD p 0) = g) (hc : celOK C l u g o p) : ∃ v, fX2_noteCopy 39 (some (88 + l.getD p 0)) (J o) u = some v ∧ Fr (fun a k => P4 a k ∧ k = g * 20 + o) u v ∧ celOK C l v g o (p + 1) := by
  have hgg := hC.g
  obtain ⟨w1, w2⟩ := hL.2.2 p hp
  obtain ⟨f0, f1, f2, f3, f4⟩ := hG.2.1 _ w2
  have ok := okg hC w2
  have hmN : 88 + l.getD p 0 < mN u := by have := hG.1; omega
  have hg20 : g < 20 := by omega
  have hcd := hC.2.2.2.2.2.2.2.2.1
  by_cases hog : o = g
  · refine ⟨u, ?_, Fr.rfl, celOK_skip hc (Or.inl hog)⟩
    unfold fX2_noteCopy
    simp (disch := first | (simp only [SH_sIi, SH_sLi]; assumption) | assumption | (simp only [nN_sI, nN_sL, nN_sR]; assumption) | omega) only [↓s_nm, ↓s_bnd2, ↓s_some, ↓s_suml, ↓s_sumr, ↓s_nz, ↓gi_q, ↓pi_q, ↓ck_q, ↓gi_gs, ↓gr_gs, ↓g_0_0, ↓g_0_1, ↓g_0_2, ↓g_0_3, ↓g_0_4, ↓g_0_5, ↓g_0_6, ↓g_0_7, ↓g_1_0, ↓g_3_0, ↓g_3_3, ↓g_4_0, ↓g_4_1, ↓g_7_0, ↓g_7_1, ↓g_10_0, ↓g_10_1, ↓g_10_2, ↓g_34_0, ↓g_34_1, ↓g_34_2, ↓g_34_3, ↓g_34_4, ↓g_34_5, ↓g_39_2, ↓g_39_3, ↓g_39_4, ↓g_39_5, ↓g_39_6, ↓g_39_7, ↓g_39_8, ↓g_39_9, ↓g_45_0, ↓g_45_1, ↓g_45_2, ↓g_45_4, ↓g_49_0, ↓g_49_1, ↓g_49_2, ↓g_49_3, ↓g_49_4, ↓g_49_5, ↓g_49_6, ↓al_2, ↓al_5, ↓al_6, ↓al_8, ↓al_9, ↓al_11, ↓al_12, ↓al_13, ↓al_35, ↓al_36, ↓al_37, ↓al_38, ↓al_40, ↓al_41, ↓al_42, ↓al_43, ↓al_44, ↓al_46, ↓al_47, ↓al_48, ↓al_50, ↓al_51, ↓al_52, ↓al_53, ↓al_54, ↓as_2, ↓as_5, ↓as_6, ↓as_8, ↓as_9, ↓as_12, ↓as_13, ↓as_35, ↓as_36, ↓as_37, ↓as_38, ↓as_40, ↓as_41, ↓as_42, ↓as_43, ↓as_44, ↓as_46, ↓as_47, ↓as_48, ↓as_50, ↓as_51, ↓as_52, ↓as_53, ↓as_54, ↓gi_0, ↓pi_0, ↓ck_0, ↓gi_1, ↓pi_1, ↓ck_1, ↓gi_3, ↓pi_3, ↓ck_3, ↓gi_4, ↓pi_4, ↓ck_4, ↓gi_7, ↓pi_7, ↓ck_7, ↓gi_10, ↓pi_10, ↓ck_10, ↓gi_34, ↓pi_34, ↓ck_34, ↓gi_39, ↓pi_39, ↓ck_39, ↓gi_45, ↓pi_45, ↓ck_45, ↓gi_49, ↓pi_49, ↓ck_49, j0, j1, j2, j3, j4, j5, j6, j7, j8, j9, j10, j11, j12, j13, j14, j15, j16, j17, j18, j19, j20, j21, j24, j25, j30, j31, j32, j36, j41, j48, j49, j57, j59, j60, j63, j64, j81, j97, j99, j100, j122, j255, j300, j400, j500, j999, j1000, j24000, j_add, j_sub, j_mul, j_neg, j_lt, j_le, j_eq, nI_sI, nR_sI, nN_sI, nI_sR, nR_sR, nN_sR, Int.toNat_natCast, true_and, and_true, false_and, and_false, if_true, if_false, reduceIte, Nat.reduceEqDiff, Option.some.injEq, Prod.mk.injEq, k_of, k_add, k_sub, k_mul, k_neg, lg_ltJ, lg_gtJ, lg_eqJ, b_0, b_J0, b_J1, b_retZ, k0, k1, k2, k3, k10, k19, k20, k30, k40, k999, ↓dayC_b, ↓gsrC_b, ↓tenC_b, ↓zooC_b, ↓isqC_b, Int.add_sub_cancel, not_true, not_false_eq_true, jn1, Bool.false_eq_true, Bool.true_eq_false, reduceCtorEq, f0, hg, show (g : Int) = (o : Int) by omega]
  · by_cases hcp : isCp C (l.getD p 0) o = true
    · obtain ⟨c1, z, c2, c3⟩ := hc
      rw [if_neg hog] at c1
      unfold zinv at c3
      rw [if_neg hog] at c3
      have cr := cN_rng C l g o p
      have cs : cN C l g o (p + 1) = cN C l g o p + 1 := by rw [cN_s, if_pos ⟨hg, hcp⟩]
      have et : ((g : Int) * 20 + (o : Int)).toNat = g * 20 + o := by omega
      by_cases hm : cN C l g o p + 1 = C 55 3
      · refine ⟨sI (sI u 41 (g * 20 + o) (J (cN C l g o p + 1))) 40 (g * 20 + o) (J (C 69 (l.getD p 0))), ?_, (Fr.rfl.sI ⟨Or.inr rfl, rfl⟩).sI ⟨Or.inl rfl, rfl⟩, ?_, C 69 (l.getD p 0), ?_, ?_⟩
        · clear c3
          unfold fX2_noteCopy fX10_pair
          simp (disch := first | (simp only [SH_sIi, SH_sLi]; assumption) | assumption | (simp only [nN_sI, nN_sL, nN_sR]; assumption) | omega) only [↓s_nm, ↓s_bnd2, ↓s_some, ↓s_suml, ↓s_sumr, ↓s_nz, ↓gi_q, ↓pi_q, ↓ck_q, ↓gi_gs, ↓gr_gs, ↓g_0_0, ↓g_0_1, ↓g_0_2, ↓g_0_3, ↓g_0_4, ↓g_0_5, ↓g_0_6, ↓g_0_7, ↓g_1_0, ↓g_3_0, ↓g_3_3, ↓g_4_0, ↓g_4_1, ↓g_7_0, ↓g_7_1, ↓g_10_0, ↓g_10_1, ↓g_10_2, ↓g_34_0, ↓g_34_1, ↓g_34_2, ↓g_34_3, ↓g_34_4, ↓g_34_5, ↓g_39_2, ↓g_39_3, ↓g_39_4, ↓g_39_5, ↓g_39_6, ↓g_39_7, ↓g_39_8, ↓g_39_9, ↓g_45_0, ↓g_45_1, ↓g_45_2, ↓g_45_4, ↓g_49_0, ↓g_49_1, ↓g_49_2, ↓g_49_3, ↓g_49_4, ↓g_49_5, ↓g_49_6, ↓al_2, ↓al_5, ↓al_6, ↓al_8, ↓al_9, ↓al_11, ↓al_12, ↓al_13, ↓al_35, ↓al_36, ↓al_37, ↓al_38, ↓al_40, ↓al_41, ↓al_42, ↓al_43, ↓al_44, ↓al_46, ↓al_47, ↓al_48, ↓al_50, ↓al_51, ↓al_52, ↓al_53, ↓al_54, ↓as_2, ↓as_5, ↓as_6, ↓as_8, ↓as_9, ↓as_12, ↓as_13, ↓as_35, ↓as_36, ↓as_37, ↓as_38, ↓as_40, ↓as_41, ↓as_42, ↓as_43, ↓as_44, ↓as_46, ↓as_47, ↓as_48, ↓as_50, ↓as_51, ↓as_52, ↓as_53, ↓as_54, ↓gi_0, ↓pi_0, ↓ck_0, ↓gi_1, ↓pi_1, ↓ck_1, ↓gi_3, ↓pi_3, ↓ck_3, ↓gi_4, ↓pi_4, ↓ck_4, ↓gi_7, ↓pi_7, ↓ck_7, ↓gi_10, ↓pi_10, ↓ck_10, ↓gi_34, ↓pi_34, ↓ck_34, ↓gi_39, ↓pi_39, ↓ck_39, ↓gi_45, ↓pi_45, ↓ck_45, ↓gi_49, ↓pi_49, ↓ck_49, j0, j1, j2, j3, j4, j5, j6, j7, j8, j9, j10, j11, j12, j13, j14, j15, j16, j17, j18, j19, j20, j21, j24, j25, j30, j31, j32, j36, j41, j48, j49, j57, j59, j60, j63, j64, j81, j97, j99, j100, j122, j255, j300, j400, j500, j999, j1000, j24000, j_add, j_sub, j_mul, j_neg, j_lt, j_le, j_eq, nI_sI, nR_sI, nN_sI, nI_sR, nR_sR, nN_sR, Int.toNat_natCast, true_and, and_true, false_and, and_false, if_true, if_false, reduceIte, Nat.reduceEqDiff, Option.some.injEq, Prod.mk.injEq, k_of, k_add, k_sub, k_mul, k_neg, lg_ltJ, lg_gtJ, lg_eqJ, b_0, b_J0, b_J1, b_retZ, k0, k1, k2, k3, k10, k19, k20, k30, k40, k999, ↓dayC_b, ↓gsrC_b, ↓tenC_b, ↓zooC_b, ↓isqC_b, Int.add_sub_cancel, not_true, not_false_eq_true, jn1, Bool.false_eq_true, Bool.true_eq_false, reduceCtorEq, f0, f2, hg, show ¬ ((g : Int) = (o : Int)) by omega, ↓isCpC, hcp, et, c1, a_cm hA, hm, show ¬ (88 + l.getD p 0 = 41) by omega]
        · rw [if_neg hog, cs, mI_sI, if_neg (by omega), mI_sI, if_pos ⟨rfl, rfl⟩]
        · rw [mI_sI, if_pos ⟨rfl, rfl⟩]
        · unfold zinv
          rw [if_neg hog]
          exact Or.inr ⟨p, by omega, by omega, by omega, rfl⟩
      · refine ⟨sI u 41 (g * 20 + o) (J (cN C l g o p + 1)), ?_, Fr.rfl.sI ⟨Or.inr rfl, rfl⟩, ?_, z, ?_, ?_⟩
        · clear c3
          unfold fX2_noteCopy fX10_pair
          simp (disch := first | (simp only [SH_sIi, SH_sLi]; assumption) | assumption | (simp only [nN_sI, nN_sL, nN_sR]; assumption) | omega) only [↓s_nm, ↓s_bnd2, ↓s_some, ↓s_suml, ↓s_sumr, ↓s_nz, ↓gi_q, ↓pi_q, ↓ck_q, ↓gi_gs, ↓gr_gs, ↓g_0_0, ↓g_0_1, ↓g_0_2, ↓g_0_3, ↓g_0_4, ↓g_0_5, ↓g_0_6, ↓g_0_7, ↓g_1_0, ↓g_3_0, ↓g_3_3, ↓g_4_0, ↓g_4_1, ↓g_7_0, ↓g_7_1, ↓g_10_0, ↓g_10_1, ↓g_10_2, ↓g_34_0, ↓g_34_1, ↓g_34_2, ↓g_34_3, ↓g_34_4, ↓g_34_5, ↓g_39_2, ↓g_39_3, ↓g_39_4, ↓g_39_5, ↓g_39_6, ↓g_39_7, ↓g_39_8, ↓g_39_9, ↓g_45_0, ↓g_45_1, ↓g_45_2, ↓g_45_4, ↓g_49_0, ↓g_49_1, ↓g_49_2, ↓g_49_3, ↓g_49_4, ↓g_49_5, ↓g_49_6, ↓al_2, ↓al_5, ↓al_6, ↓al_8, ↓al_9, ↓al_11, ↓al_12, ↓al_13, ↓al_35, ↓al_36, ↓al_37, ↓al_38, ↓al_40, ↓al_41, ↓al_42, ↓al_43, ↓al_44, ↓al_46, ↓al_47, ↓al_48, ↓al_50, ↓al_51, ↓al_52, ↓al_53, ↓al_54, ↓as_2, ↓as_5, ↓as_6, ↓as_8, ↓as_9, ↓as_12, ↓as_13, ↓as_35, ↓as_36, ↓as_37, ↓as_38, ↓as_40, ↓as_41, ↓as_42, ↓as_43, ↓as_44, ↓as_46, ↓as_47, ↓as_48, ↓as_50, ↓as_51, ↓as_52, ↓as_53, ↓as_54, ↓gi_0, ↓pi_0, ↓ck_0, ↓gi_1, ↓pi_1, ↓ck_1, ↓gi_3, ↓pi_3, ↓ck_3, ↓gi_4, ↓pi_4, ↓ck_4, ↓gi_7, ↓pi_7, ↓ck_7, ↓gi_10, ↓pi_10, ↓ck_10, ↓gi_34, ↓pi_34, ↓ck_34, ↓gi_39, ↓pi_39, ↓ck_39, ↓gi_45, ↓pi_45, ↓ck_45, ↓gi_49, ↓pi_49, ↓ck_49, j0, j1, j2, j3, j4, j5, j6, j7, j8, j9, j10, j11, j12, j13, j14, j15, j16, j17, j18, j19, j20, j21, j24, j25, j30, j31, j32, j36, j41, j48, j49, j57, j59, j60, j63, j64, j81, j97, j99, j100, j122, j255, j300, j400, j500, j999, j1000, j24000, j_add, j_sub, j_mul, j_neg, j_lt, j_le, j_eq, nI_sI, nR_sI, nN_sI, nI_sR, nR_sR, nN_sR, Int.toNat_natCast, true_and, and_true, false_and, and_false, if_true, if_false, reduceIte, Nat.reduceEqDiff, Option.some.injEq, Prod.mk.injEq, k_of, k_add, k_sub, k_mul, k_neg, lg_ltJ, lg_gtJ, lg_eqJ, b_0, b_J0, b_J1, b_retZ, k0, k1, k2, k3, k10, k19, k20, k30, k40, k999, ↓dayC_b, ↓gsrC_b, ↓tenC_b, ↓zooC_b, ↓isqC_b, Int.add_sub_cancel, not_true, not_false_eq_true, jn1, Bool.false_eq_true, Bool.true_eq_false, reduceCtorEq, f0, f2, hg, show ¬ ((g : Int) = (o : Int)) by omega, ↓isCpC, hcp, et, c1, a_cm hA, hm]
        · rw [if_neg hog, cs, mI_sI, if_pos ⟨rfl, rfl⟩]
        · rw [mI_sI, if_neg (by omega)]; exact c2
        · unfold zinv
          rw [if_neg hog]
          rcases c3 with ⟨i1, i2⟩ | ⟨i, i1, i2⟩
          · exact Or.inl ⟨by omega, i2⟩
          · exact Or.inr ⟨i, by omega, i2⟩
    · refine ⟨u, ?_, Fr.rfl, celOK_skip hc (Or.inr fun x => hcp x.2)⟩
      unfold fX2_noteCopy
      simp (disch := first | (simp only [SH_sIi, SH_sLi]; assumption) | assumption | (simp only [nN_sI, nN_sL, nN_sR]; assumption) | omega) only [↓s_nm, ↓s_bnd2, ↓s_some, ↓s_suml, ↓s_sumr, ↓s_nz, ↓gi_q, ↓pi_q, ↓ck_q, ↓gi_gs, ↓gr_gs, ↓g_0_0, ↓g_0_1, ↓g_0_2, ↓g_0_3, ↓g_0_4, ↓g_0_5, ↓g_0_6, ↓g_0_7, ↓g_1_0, ↓g_3_0, ↓g_3_3, ↓g_4_0, ↓g_4_1, ↓g_7_0, ↓g_7_1, ↓g_10_0, ↓g_10_1, ↓g_10_2, ↓g_34_0, ↓g_34_1, ↓g_34_2, ↓g_34_3, ↓g_34_4, ↓g_34_5, ↓g_39_2, ↓g_39_3, ↓g_39_4, ↓g_39_5, ↓g_39_6, ↓g_39_7, ↓g_39_8, ↓g_39_9, ↓g_45_0, ↓g_45_1, ↓g_45_2, ↓g_45_4, ↓g_49_0, ↓g_49_1, ↓g_49_2, ↓g_49_3, ↓g_49_4, ↓g_49_5, ↓g_49_6, ↓al_2, ↓al_5, ↓al_6, ↓al_8, ↓al_9, ↓al_11, ↓al_12, ↓al_13, ↓al_35, ↓al_36, ↓al_37, ↓al_38, ↓al_40, ↓al_41, ↓al_42, ↓al_43, ↓al_44, ↓al_46, ↓al_47, ↓al_48, ↓al_50, ↓al_51, ↓al_52, ↓al_53, ↓al_54, ↓as_2, ↓as_5, ↓as_6, ↓as_8, ↓as_9, ↓as_12, ↓as_13, ↓as_35, ↓as_36, ↓as_37, ↓as_38, ↓as_40, ↓as_41, ↓as_42, ↓as_43, ↓as_44, ↓as_46, ↓as_47, ↓as_48, ↓as_50, ↓as_51, ↓as_52, ↓as_53, ↓as_54, ↓gi_0, ↓pi_0, ↓ck_0, ↓gi_1, ↓pi_1, ↓ck_1, ↓gi_3, ↓pi_3, ↓ck_3, ↓gi_4, ↓pi_4, ↓ck_4, ↓gi_7, ↓pi_7, ↓ck_7, ↓gi_10, ↓pi_10, ↓ck_10, ↓gi_34, ↓pi_34, ↓ck_34, ↓gi_39, ↓pi_39, ↓ck_39, ↓gi_45, ↓pi_45, ↓ck_45, ↓gi_49, ↓pi_49, ↓ck_49, j0, j1, j2, j3, j4, j5, j6, j7, j8, j9, j10, j11, j12, j13, j14, j15, j16, j17, j18, j19, j20, j21, j24, j25, j30, j31, j32, j36, j41, j48, j49, j57, j59, j60, j63, j64, j81, j97, j99, j100, j122, j255, j300, j400, j500, j999, j1000, j24000, j_add, j_sub, j_mul, j_neg, j_lt, j_le, j_eq, nI_sI, nR_sI, nN_sI, nI_sR, nR_sR, nN_sR, Int.toNat_natCast, true_and, and_true, false_and, and_false, if_true, if_false, reduceIte, Nat.reduceEqDiff, Option.some.injEq, Prod.mk.injEq, k_of, k_add, k_sub, k_mul, k_neg, lg_ltJ, lg_gtJ, lg_eqJ, b_0, b_J0, b_J1, b_retZ, k0, k1, k2, k3, k10, k19, k20, k30, k40, k999, ↓dayC_b, ↓gsrC_b, ↓tenC_b, ↓zooC_b, ↓isqC_b, Int.add_sub_cancel, not_true, not_false_eq_true, jn1, Bool.false_eq_true, Bool.true_eq_false, reduceCtorEq, f0, hg, show ¬ ((g : Int) = (o : Int)) by omega, ↓isCpC, hcp]
theorem celOK_fr {p : Nat} (h : celOK C l u g o p) (f : Fr P u u') (hP : ∀ a, ¬ P a (g * 20 + o)) : celOK C l u' g o p := by
  obtain ⟨h1, z, h2, h3⟩ := h
  exact ⟨by rw [f.2.2 _ _ (hP _)]; exact h1, z, by rw [f.2.2 _ _ (hP _)]; exact h2, h3⟩
theorem LD_fr (h : LD C u l) (f : Fr P u u') : LD C u' l := ⟨h.1, h.2.1, fun p hp => by rw [f.2.1]; exact h.2.2 p hp⟩
theorem copIn {p : Nat} (hS : SH u) (hC : OkC C) (hA : RCa C D u) (hG : RCg C u) (hL : LD C u l) (hp : p < nG C) (hc : ∀ g o, g < 20 → o < 20 → celOK C l u g o p) : ∃ v, lp (fun s : Int32 × Mem => bX2_findCopiers_44 39 (J p) s.1 s.2) FU ((0 : Int32), u) = some v ∧ Fr P4 u v ∧ ∀ g o, g < 20 → o < 20 → celOK C l v g o (p + 1) := by
  have hgg := hC.g
  obtain ⟨w1, w2⟩ := hL.2.2 p hp
  have ok := okg hC w2
  obtain ⟨g0, eg⟩ : ∃ g0 : Nat, C 67 (l.getD p 0) = g0 := ⟨(C 67 (l.getD p 0)).toNat, by omega⟩
  refine lp_inv (f := fun s : Int32 × Mem => bX2_findCopiers_44 39 (J p) s.1 s.2) (E := fun v => Fr P4 u v ∧ ∀ g o, g < 20 → o < 20 → celOK C l v g o (p + 1))
    (fun m s => s.1 = J (m : Nat) ∧ Fr P4 u s.2 ∧ (∀ g o, g < 20 → o < 20 → (g ≠ g0 ∨ m ≤ o) → celOK C l s.2 g o p) ∧ ∀ o, o < m → celOK C l s.2 g0 o (p + 1)) 20 ⟨rfl, Fr.rfl, fun g o hg ho _ => hc g o hg ho, fun o ho => by omega⟩ ?_ ?_ (FU_gt (by omega))
  · rintro m ⟨s, v⟩ hm ⟨e1, e2, e3, e4⟩
    simp only at e1 e2 e3 e4
    subst e1
    have sv := e2.SH hS
    have hA1 := RCa_fr e2 (fun _ _ => P4_le) hA
    have hG1 := RCg_fr e2 (fun _ _ => P4_le) hG
    have hL1 := LD_fr hL e2
    obtain ⟨w, x1, x2, x3⟩ := noteC sv hC hA1 hG1 hL1 hp hm eg (e3 g0 m (by omega) hm (Or.inr (Nat.le_refl _)))
    obtain ⟨y1, y2⟩ := hL1.2.2 p hp
    refine ⟨(J (m + 1 : Nat), w), ?_, rfl, e2.trans (x2.mono fun a k h => h.1), fun g o hg ho h => ?_, fun o ho => ?_⟩
    · show bX2_findCopiers_44 39 (J p) (J m) v = _
      unfold bX2_findCopiers_44
      simp (disch := first | (simp only [SH_sIi, SH_sLi]; assumption) | assumption | (simp only [nN_sI, nN_sL, nN_sR]; assumption) | omega) only [↓s_nm, ↓s_bnd2, ↓s_some, ↓s_suml, ↓s_sumr, ↓s_nz, ↓gi_q, ↓pi_q, ↓ck_q, ↓gi_gs, ↓gr_gs, ↓g_0_0, ↓g_0_1, ↓g_0_2, ↓g_0_3, ↓g_0_4, ↓g_0_5, ↓g_0_6, ↓g_0_7, ↓g_1_0, ↓g_3_0, ↓g_3_3, ↓g_4_0, ↓g_4_1, ↓g_7_0, ↓g_7_1, ↓g_10_0, ↓g_10_1, ↓g_10_2, ↓g_34_0, ↓g_34_1, ↓g_34_2, ↓g_34_3, ↓g_34_4, ↓g_34_5, ↓g_39_2, ↓g_39_3, ↓g_39_4, ↓g_39_5, ↓g_39_6, ↓g_39_7, ↓g_39_8, ↓g_39_9, ↓g_45_0, ↓g_45_1, ↓g_45_2, ↓g_45_4, ↓g_49_0, ↓g_49_1, ↓g_49_2, ↓g_49_3, ↓g_49_4, ↓g_49_5, ↓g_49_6, ↓al_2, ↓al_5, ↓al_6, ↓al_8, ↓al_9, ↓al_11, ↓al_12, ↓al_13, ↓al_35, ↓al_36, ↓al_37, ↓al_38, ↓al_40, ↓al_41, ↓al_42, ↓al_43, ↓al_44, ↓al_46, ↓al_47, ↓al_48, ↓al_50, ↓al_51, ↓al_52, ↓al_53, ↓al_54, ↓as_2, ↓as_5, ↓as_6, ↓as_8, ↓as_9, ↓as_12, ↓as_13, ↓as_35, ↓as_36, ↓as_37, ↓as_38, ↓as_40, ↓as_41, ↓as_42, ↓as_43, ↓as_44, ↓as_46, ↓as_47, ↓as_48, ↓as_50, ↓as_51, ↓as_52, ↓as_53, ↓as_54, ↓gi_0, ↓pi_0, ↓ck_0, ↓gi_1, ↓pi_1, ↓ck_1, ↓gi_3, ↓pi_3, ↓ck_3, ↓gi_4, ↓pi_4, ↓ck_4, ↓gi_7, ↓pi_7, ↓ck_7, ↓gi_10, ↓pi_10, ↓ck_10, ↓gi_34, ↓pi_34, ↓ck_34, ↓gi_39, ↓pi_39, ↓ck_39, ↓gi_45, ↓pi_45, ↓ck_45, ↓gi_49, ↓pi_49, ↓ck_49, j0, j1, j2, j3, j4, j5, j6, j7, j8, j9, j10, j11, j12, j13, j14, j15, j16, j17, j18, j19, j20, j21, j24, j25, j30, j31, j32, j36, j41, j48, j49, j57, j59, j60, j63, j64, j81, j97, j99, j100, j122, j255, j300, j400, j500, j999, j1000, j24000, j_add, j_sub, j_mul, j_neg, j_lt, j_le, j_eq, nI_sI, nR_sI, nN_sI, nI_sR, nR_sR, nN_sR, Int.toNat_natCast, true_and, and_true, false_and, and_false, if_true, if_false, reduceIte, Nat.reduceEqDiff, Option.some.injEq, Prod.mk.injEq, k_of, k_add, k_sub, k_mul, k_neg, lg_ltJ, lg_gtJ, lg_eqJ, b_0, b_J0, b_J1, b_retZ, k0, k1, k2, k3, k10, k19, k20, k30, k40, k999, ↓dayC_b, ↓gsrC_b, ↓tenC_b, ↓zooC_b, ↓isqC_b, Int.add_sub_cancel, not_true, not_false_eq_true, jn1, Bool.false_eq_true, Bool.true_eq_false, reduceCtorEq, show (m : Int) < 20 by omega, y1]
      rw [x1]
      rfl
    · exact celOK_fr (e3 g o hg ho (by omega)) x2 fun a h => by omega
    · by_cases hom : o = m
      · subst hom; exact x3
      · exact celOK_fr (e4 o (by omega)) x2 fun a h => by omega
  · rintro ⟨s, v⟩ ⟨e1, e2, e3, e4⟩
    simp only at e1 e2 e3 e4
    subst e1
    refine ⟨v, rfl, e2, fun g o hg ho => ?_⟩
    by_cases h : g = g0
    · subst h; exact e4 o ho
    · exact celOK_skip (e3 g o hg ho (Or.inl h)) (Or.inr fun x => h (by omega))
/-- from the cells to the copiers -/
theorem CopOK_of (hC : OkC C) (hL : LD C u l) (hcd : C 55 2 ≠ -1) (h : ∀ g o, g < 20 → o < 20 → celOK C l u g o (nG C)) : CopOK C u := by
  have hcm := hC.2.2.2.2.2.2.2.2.1
  have hgg := hC.g
  intro g o hg ho
  obtain ⟨-, z, h2, h3⟩ := h g o hg ho
  unfold zinv at h3
  by_cases hog : o = g
  · rw [if_pos hog] at h3
    exact ⟨z, h2, by omega, by omega, fun d hd => ⟨fun h => by omega, fun h => absurd hog h.1⟩⟩
  · rw [if_neg hog] at h3
    have hcps : ∀ d, cpsOf C g o d = sumN (fun i => if C 67 (l.getD i 0) = g ∧ C 69 (l.getD i 0) ≤ d ∧ isCp C (l.getD i 0) o = true then 1 else 0) (nG C) := fun d => by
      unfold cpsOf
      exact (sumN_perm (fun k => if C 67 k = g ∧ C 69 k ≤ d ∧ isCp C k o = true then 1 else 0) hL.1).symm
    rcases h3 with ⟨i1, i2⟩ | ⟨i, i1, i2, i3, i4⟩
    · refine ⟨z, h2, by omega, by omega, fun d hd => ⟨fun h => by omega, fun h => ?_⟩⟩
      exfalso
      have : cpsOf C g o d ≤ cN C l g o (nG C) := by
        rw [hcps]
        refine sumN_le _ fun k hk => ?_
        by_cases hx : C 67 (l.getD k 0) = g ∧ C 69 (l.getD k 0) ≤ d ∧ isCp C (l.getD k 0) o = true
        · rw [if_pos hx, if_pos ⟨hx.1, hx.2.2⟩]; omega
        · rw [if_neg hx]; split <;> omega
      omega
    · have ok := okg hC (hL.2.2 i i1).2
      have split1 : ∀ (f : Nat → Int) (m j : Nat), sumN f (m + j) = sumN f m + sumN (fun x => f (m + x)) j := by
        intro f m j
        induction j with
        | zero => show sumN f m = sumN f m + 0; omega
        | succ j ih => show sumN f (m + j) + f (m + j) = sumN f m + (sumN (fun x => f (m + x)) j + f (m + j)); rw [ih]; omega
      refine ⟨z, h2, by omega, by omega, fun d hd => ⟨fun h => ⟨hog, hcd, ?_⟩, fun h => ?_⟩⟩
      · rw [hcps, show nG C = (i + 1) + (nG C - (i + 1)) by omega, split1]
        have e1 : sumN (fun i => if C 67 (l.getD i 0) = g ∧ C 69 (l.getD i 0) ≤ d ∧ isCp C (l.getD i 0) o = true then 1 else 0) (i + 1) = cN C l g o (i + 1) := by
          unfold cN
          refine sumN_congr _ fun k hk => ?_
          have hle : C 69 (l.getD k 0) ≤ d := by
            by_cases hki : k = i
            · subst hki; omega
            · have := hL.2.1 k i (by omega) i1; omega
          by_cases hx : C 67 (l.getD k 0) = g ∧ isCp C (l.getD k 0) o = true
          · rw [if_pos hx, if_pos ⟨hx.1, hle, hx.2⟩]
          · rw [if_neg hx, if_neg fun y => hx ⟨y.1, y.2.2⟩]
        have e2 := (sumN_rng (f := fun x => if C 67 (l.getD (i + 1 + x) 0) = g ∧ C 69 (l.getD (i + 1 + x) 0) ≤ d ∧ isCp C (l.getD (i + 1 + x) 0) o = true then 1 else 0) (lo := 0) (hi := 1) (nG C - (i + 1)) fun k hk => by split <;> omega).1
        rw [e1]
        omega
      · by_cases hzd : z ≤ d
        · exact hzd
        · exfalso
          have h3 := h.2.2
          rw [hcps, show nG C = i + (nG C - i) by omega, split1] at h3
          have e1 : sumN (fun i => if C 67 (l.getD i 0) = g ∧ C 69 (l.getD i 0) ≤ d ∧ isCp C (l.getD i 0) o = true then 1 else 0) i ≤ cN C l g o i := by
            unfold cN
            refine sumN_le _ fun k hk => ?_
            by_cases hx : C 67 (l.getD k 0) = g ∧ C 69 (l.getD k 0) ≤ d ∧ isCp C (l.getD k 0) o = true
            · rw [if_pos hx, if_pos ⟨hx.1, hx.2.2⟩]; omega
            · rw [if_neg hx]; split <;> omega
          have e2 : sumN (fun x => if C 67 (l.getD (i + x) 0) = g ∧ C 69 (l.getD (i + x) 0) ≤ d ∧ isCp C (l.getD (i + x) 0) o = true then 1 else 0) (nG C - i) = 0 := by
            refine (sumN_congr (f := fun _ => 0) _ fun k hk => ?_).trans (sumN_0 _)
            rw [if_neg]
            rintro ⟨-, y, -⟩
            have hle : C 69 (l.getD i 0) ≤ C 69 (l.getD (i + k) 0) := by
              by_cases hk0 : k = 0
              · subst hk0; exact Int.le_refl _
              · exact hL.2.1 i (i + k) (by omega) (by omega)
            omega
          rw [e2] at h3
          omega
end CROWD
