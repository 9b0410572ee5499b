/-! mend: the reference's search -/
def PMm (a k : Nat) : Prop := a = 85 ∨ a = 87 ∨ (a = 55 ∧ k = 55)
theorem PMm_x {a k : Nat} (h : PMm a k) : PX a k = true := by
  unfold PMm at h
  rcases h with rfl | rfl | ⟨rfl, rfl⟩ <;> rfl
def RepN (n : Nat) (f : Nat → Int) (q : Nat) (u : Mem) : Prop := ∀ x, x < q → bt n x = 1 → mI u 85 x = J (f x)
def RepE (n N : Nat) (st : Lf) (u : Mem) : Prop := mI u 55 55 = J st.1 ∧ (0 ≤ st.1 ∧ st.1 ≤ 1000) ∧ ∀ x, x < N → bt n x = 1 → mI u 87 x = J (st.2 x)
def MM (C D : Sp) (n : Nat) (h : Nat → Int) (u : Mem) : Prop := SH u ∧ RM C D u ∧ ∀ q, q < nQ C → bt n q = 1 → mI u 86 q = J (h q)
section MENDM
variable {C D : Sp} {n : Nat} {h f : Nat → Int} {u u' : Mem} {β : Type} {q i : Nat} {t v : Int} {P : Nat → Nat → Prop}
theorem MM_fr (hX : MM C D n h u) (f : Fr P u u') (hP : ∀ a k, P a k → PMm a k) : MM C D n h u' := by
  obtain ⟨h1, h2, h3⟩ := hX
  refine ⟨f.SH h1, RM_fr f (fun a k hp => PMm_x (hP a k hp)) h2, fun q hq hb => ?_⟩
  rw [f.2.2 _ _ fun hp => by have := hP _ _ hp; unfold PMm at this; omega]
  exact h3 q hq hb
theorem mayM (hC : OkC C) (hD : OkD C D) (hX : MM C D n h u) (hn : n < 2147483648) (hq : q < nQ C) (hb : bt n q = 1) (hf : FOK n f (q + 1)) (hT : RepN n f (q + 1) u) {g : Int32 → Option β} : (fX12_mayBe 55 (J (n : Nat)) (J (q : Nat)) u).bind g = g (B (bad D n f q = false)) := by
  have hC0 := hC.1
  have hqq := hC.q
  have htt := hD.t
  obtain ⟨hS, hM, hh⟩ := hX
  have e : lp (fun s : Int32 => bX12_mayBe_2 55 (J (n : Nat)) (J (q : Nat)) u s) FU (0 : Int32) = some (if anyN (fun k => td D n q k && brk (D 73 k) (f (D 71 k).toNat) (f (D 72 k).toNat)) (nT D) = true then .inr () else .inl ()) := by
    refine lp_find (f := fun s : Int32 => bX12_mayBe_2 55 (J (n : Nat)) (J (q : Nat)) u s) (fun m => J (m : Nat)) (fun k => td D n q k && brk (D 73 k) (f (D 71 k).toNat) (f (D 72 k).toNat)) (fun _ => .inr ()) (.inl ()) (nT D) FU (FU_gt (by omega)) (fun m hm hx => ?_) (fun m hm hx => ?_) ?_
    · have ot := hD.2.2.2.2.2.1 m hm
      have emn : min (D 71 m) (D 72 m) = ((mnQ D m : Nat) : Int) := by unfold mnQ; omega
      show bX12_mayBe_2 55 (J (n : Nat)) (J (q : Nat)) u (J m) = _
      unfold bX12_mayBe_2
      by_cases c1 : max (D 71 m) (D 72 m) = q
      · by_cases c2 : bt n (mnQ D m) = 1
        · have htd : td D n q m = true := (td_iff m).mpr ⟨c1, c2⟩
          rw [htd, Bool.true_and] at hx
          obtain ⟨x, ex⟩ : ∃ x : Nat, D 71 m = x := ⟨(D 71 m).toNat, by omega⟩
          obtain ⟨y, ey⟩ : ∃ x : Nat, D 72 m = x := ⟨(D 72 m).toNat, by omega⟩
          have hbx : bt n x = 1 := by
            by_cases hxq : x = q
            · rw [hxq]; exact hb
            · rw [show x = mnQ D m by omega]; exact c2
          have hby : bt n y = 1 := by
            by_cases hxq : y = q
            · rw [hxq]; exact hb
            · rw [show y = mnQ D m by omega]; exact c2
          rw [ex, ey, Int.toNat_natCast, Int.toNat_natCast] at hx
          have fx := hf x (by omega) hbx
          have fy := hf y (by omega) hby
          rw [ex, ey] at c1 emn
          simp (disch := first | (simp only [SH_sIi, SH_sLi]; assumption) | assumption | (simp only [nN_sI, nN_sL, nN_sR]; assumption) | omega) only [↓s_nm, ↓s_bnd2, ↓s_some, ↓s_suml, ↓s_sumr, ↓s_nz, ↓gi_q, ↓pi_q, ↓ck_q, ↓gi_gs, ↓gr_gs, ↓g_55_10, ↓g_55_11, ↓g_55_12, ↓g_55_13, ↓g_55_14, ↓g_55_15, ↓g_55_24, ↓g_55_28, ↓g_55_29, ↓g_55_30, ↓g_55_31, ↓g_55_32, ↓g_55_33, ↓g_55_34, ↓g_55_35, ↓g_55_36, ↓g_55_37, ↓g_55_38, ↓g_55_39, ↓g_55_40, ↓g_55_41, ↓g_55_42, ↓g_55_43, ↓g_55_44, ↓g_55_47, ↓g_55_48, ↓g_55_49, ↓g_55_50, ↓g_55_51, ↓g_55_52, ↓g_55_53, ↓g_55_54, ↓al_56, ↓al_57, ↓al_58, ↓al_59, ↓al_61, ↓al_62, ↓al_63, ↓al_64, ↓al_65, ↓al_66, ↓al_67, ↓al_68, ↓al_69, ↓al_70, ↓al_71, ↓al_72, ↓al_73, ↓al_74, ↓al_75, ↓al_76, ↓al_77, ↓al_78, ↓al_79, ↓al_80, ↓al_81, ↓al_82, ↓al_83, ↓al_84, ↓al_85, ↓al_86, ↓al_87, ↓as_56, ↓as_57, ↓as_58, ↓as_59, ↓as_61, ↓as_62, ↓as_63, ↓as_64, ↓as_65, ↓as_66, ↓as_67, ↓as_68, ↓as_69, ↓as_70, ↓as_71, ↓as_72, ↓as_73, ↓as_74, ↓as_75, ↓as_76, ↓as_77, ↓as_78, ↓as_79, ↓as_80, ↓as_81, ↓as_82, ↓as_83, ↓as_84, ↓as_85, ↓as_86, ↓as_87, ↓gi_55, ↓pi_55, ↓ck_55, ↓gi_60, ↓pi_60, ↓ck_60, j0, j1, j2, j3, j4, j5, j6, j7, j8, j9, j10, j11, j12, j13, j14, j15, j16, j17, j18, j19, j20, j21, j24, j25, j30, j31, j32, j36, j41, j48, j49, j57, j59, j60, j63, j64, j81, j97, j99, j100, j122, j255, j300, j400, j500, j999, j1000, j24000, j_add, j_sub, j_mul, j_neg, j_lt, j_le, j_eq, nI_sI, nR_sI, nN_sI, nI_sR, nR_sR, nN_sR, Int.toNat_natCast, true_and, and_true, false_and, and_false, if_true, if_false, reduceIte, Nat.reduceEqDiff, Option.some.injEq, Prod.mk.injEq, k_of, k_add, k_sub, k_mul, k_neg, lg_ltJ, lg_gtJ, lg_eqJ, b_0, b_J0, b_J1, b_retZ, k0, k1, k2, k3, k10, k19, k20, k30, k40, k999, ↓in_b, ↓dayM_b, ↓gsrM_b, ↓isqM_b, Int.add_sub_cancel, not_true, not_false_eq_true, jn1, Bool.false_eq_true, Bool.true_eq_false, reduceCtorEq, m_55_0 hM, m_55_1 hM, m_55_2 hM, m_55_3 hM, m_55_4 hM, m_55_25 hM, m_55_26 hM, m_55_16 hM, m_55_22 hM, m_55_23 hM, m_55_27 hM, m_56 hM, m_57 hM, m_63 hM, m_64 hM, m_65 hM, m_66 hM, m_67 hM, m_68 hM, m_69 hM, m_70 hM, m_61 hM, m_71 hM, m_72 hM, m_73 hM, m_84 hM, show (m : Int) < D 55 27 by omega, ex, ey, mxI_j, mnI_j, c1, emn, bit1 n (mnQ D m) hn (by omega) c2, hT x (by omega) hbx, hT y (by omega) hby, ↓brkM, hx, show ¬ ((1 : Int) = 0) by omega]
        · have c2' : bt n (mnQ D m) = 0 := by have := bt_le n (mnQ D m); omega
          have hml : mnQ D m < 32 := by omega
          simp (disch := first | (simp only [SH_sIi, SH_sLi]; assumption) | assumption | (simp only [nN_sI, nN_sL, nN_sR]; assumption) | omega) only [↓s_nm, ↓s_bnd2, ↓s_some, ↓s_suml, ↓s_sumr, ↓s_nz, ↓gi_q, ↓pi_q, ↓ck_q, ↓gi_gs, ↓gr_gs, ↓g_55_10, ↓g_55_11, ↓g_55_12, ↓g_55_13, ↓g_55_14, ↓g_55_15, ↓g_55_24, ↓g_55_28, ↓g_55_29, ↓g_55_30, ↓g_55_31, ↓g_55_32, ↓g_55_33, ↓g_55_34, ↓g_55_35, ↓g_55_36, ↓g_55_37, ↓g_55_38, ↓g_55_39, ↓g_55_40, ↓g_55_41, ↓g_55_42, ↓g_55_43, ↓g_55_44, ↓g_55_47, ↓g_55_48, ↓g_55_49, ↓g_55_50, ↓g_55_51, ↓g_55_52, ↓g_55_53, ↓g_55_54, ↓al_56, ↓al_57, ↓al_58, ↓al_59, ↓al_61, ↓al_62, ↓al_63, ↓al_64, ↓al_65, ↓al_66, ↓al_67, ↓al_68, ↓al_69, ↓al_70, ↓al_71, ↓al_72, ↓al_73, ↓al_74, ↓al_75, ↓al_76, ↓al_77, ↓al_78, ↓al_79, ↓al_80, ↓al_81, ↓al_82, ↓al_83, ↓al_84, ↓al_85, ↓al_86, ↓al_87, ↓as_56, ↓as_57, ↓as_58, ↓as_59, ↓as_61, ↓as_62, ↓as_63, ↓as_64, ↓as_65, ↓as_66, ↓as_67, ↓as_68, ↓as_69, ↓as_70, ↓as_71, ↓as_72, ↓as_73, ↓as_74, ↓as_75, ↓as_76, ↓as_77, ↓as_78, ↓as_79, ↓as_80, ↓as_81, ↓as_82, ↓as_83, ↓as_84, ↓as_85, ↓as_86, ↓as_87, ↓gi_55, ↓pi_55, ↓ck_55, ↓gi_60, ↓pi_60, ↓ck_60, j0, j1, j2, j3, j4, j5, j6, j7, j8, j9, j10, j11, j12, j13, j14, j15, j16, j17, j18, j19, j20, j21, j24, j25, j30, j31, j32, j36, j41, j48, j49, j57, j59, j60, j63, j64, j81, j97, j99, j100, j122, j255, j300, j400, j500, j999, j1000, j24000, j_add, j_sub, j_mul, j_neg, j_lt, j_le, j_eq, nI_sI, nR_sI, nN_sI, nI_sR, nR_sR, nN_sR, Int.toNat_natCast, true_and, and_true, false_and, and_false, if_true, if_false, reduceIte, Nat.reduceEqDiff, Option.some.injEq, Prod.mk.injEq, k_of, k_add, k_sub, k_mul, k_neg, lg_ltJ, lg_gtJ, lg_eqJ, b_0, b_J0, b_J1, b_retZ, k0, k1, k2, k3, k10, k19, k20, k30, k40, k999, ↓in_b, ↓dayM_b, ↓gsrM_b, ↓isqM_b, Int.add_sub_cancel, not_true, not_false_eq_true, jn1, Bool.false_eq_true, Bool.true_eq_false, reduceCtorEq, m_55_0 hM, m_55_1 hM, m_55_2 hM, m_55_3 hM, m_55_4 hM, m_55_25 hM, m_55_26 hM, m_55_16 hM, m_55_22 hM, m_55_23 hM, m_55_27 hM, m_56 hM, m_57 hM, m_63 hM, m_64 hM, m_65 hM, m_66 hM, m_67 hM, m_68 hM, m_69 hM, m_70 hM, m_61 hM, m_71 hM, m_72 hM, m_73 hM, m_84 hM, show (m : Int) < D 55 27 by omega, mxI_j, mnI_j, c1, emn, bit0 n (mnQ D m) hn hml c2']
      · simp (disch := first | (simp only [SH_sIi, SH_sLi]; assumption) | assumption | (simp only [nN_sI, nN_sL, nN_sR]; assumption) | omega) only [↓s_nm, ↓s_bnd2, ↓s_some, ↓s_suml, ↓s_sumr, ↓s_nz, ↓gi_q, ↓pi_q, ↓ck_q, ↓gi_gs, ↓gr_gs, ↓g_55_10, ↓g_55_11, ↓g_55_12, ↓g_55_13, ↓g_55_14, ↓g_55_15, ↓g_55_24, ↓g_55_28, ↓g_55_29, ↓g_55_30, ↓g_55_31, ↓g_55_32, ↓g_55_33, ↓g_55_34, ↓g_55_35, ↓g_55_36, ↓g_55_37, ↓g_55_38, ↓g_55_39, ↓g_55_40, ↓g_55_41, ↓g_55_42, ↓g_55_43, ↓g_55_44, ↓g_55_47, ↓g_55_48, ↓g_55_49, ↓g_55_50, ↓g_55_51, ↓g_55_52, ↓g_55_53, ↓g_55_54, ↓al_56, ↓al_57, ↓al_58, ↓al_59, ↓al_61, ↓al_62, ↓al_63, ↓al_64, ↓al_65, ↓al_66, ↓al_67, ↓al_68, ↓al_69, ↓al_70, ↓al_71, ↓al_72, ↓al_73, ↓al_74, ↓al_75, ↓al_76, ↓al_77, ↓al_78, ↓al_79, ↓al_80, ↓al_81, ↓al_82, ↓al_83, ↓al_84, ↓al_85, ↓al_86, ↓al_87, ↓as_56, ↓as_57, ↓as_58, ↓as_59, ↓as_61, ↓as_62, ↓as_63, ↓as_64, ↓as_65, ↓as_66, ↓as_67, ↓as_68, ↓as_69, ↓as_70, ↓as_71, ↓as_72, ↓as_73, ↓as_74, ↓as_75, ↓as_76, ↓as_77, ↓as_78, ↓as_79, ↓as_80, ↓as_81, ↓as_82, ↓as_83, ↓as_84, ↓as_85, ↓as_86, ↓as_87, ↓gi_55, ↓pi_55, ↓ck_55, ↓gi_60, ↓pi_60, ↓ck_60, j0, j1, j2, j3, j4, j5, j6, j7, j8, j9, j10, j11, j12, j13, j14, j15, j16, j17, j18, j19, j20, j21, j24, j25, j30, j31, j32, j36, j41, j48, j49, j57, j59, j60, j63, j64, j81, j97, j99, j100, j122, j255, j300, j400, j500, j999, j1000, j24000, j_add, j_sub, j_mul, j_neg, j_lt, j_le, j_eq, nI_sI, nR_sI, nN_sI, nI_sR, nR_sR, nN_sR, Int.toNat_natCast, true_and, and_true, false_and, and_false, if_true, if_false, reduceIte, Nat.reduceEqDiff, Option.some.injEq, Prod.mk.injEq, k_of, k_add, k_sub, k_mul, k_neg, lg_ltJ, lg_gtJ, lg_eqJ, b_0, b_J0, b_J1, b_retZ, k0, k1, k2, k3, k10, k19, k20, k30, k40, k999, ↓in_b, ↓dayM_b, ↓gsrM_b, ↓isqM_b, Int.add_sub_cancel, not_true, not_false_eq_true, jn1, Bool.false_eq_true, Bool.true_eq_false, reduceCtorEq, m_55_0 hM, m_55_1 hM, m_55_2 hM, m_55_3 hM, m_55_4 hM, m_55_25 hM, m_55_26 hM, m_55_16 hM, m_55_22 hM, m_55_23 hM, m_55_27 hM, m_56 hM, m_57 hM, m_63 hM, m_64 hM, m_65 hM, m_66 hM, m_67 hM, m_68 hM, m_69 hM, m_70 hM, m_61 hM, m_71 hM, m_72 hM, m_73 hM, m_84 hM, show (m : Int) < D 55 27 by omega, mxI_j, c1]
    · have ot := hD.2.2.2.2.2.1 m hm
      have emn : min (D 71 m) (D 72 m) = ((mnQ D m : Nat) : Int) := by unfold mnQ; omega
      rw [Bool.and_eq_true] at hx
      obtain ⟨htd, hx⟩ := hx
      obtain ⟨c1, c2⟩ := (td_iff m).mp htd
      obtain ⟨x, ex⟩ : ∃ x : Nat, D 71 m = x := ⟨(D 71 m).toNat, by omega⟩
      obtain ⟨y, ey⟩ : ∃ x : Nat, D 72 m = x := ⟨(D 72 m).toNat, by omega⟩
      have hbx : bt n x = 1 := by
        by_cases hxq : x = q
        · rw [hxq]; exact hb
        · rw [show x = mnQ D m by omega]; exact c2
      have hby : bt n y = 1 := by
        by_cases hxq : y = q
        · rw [hxq]; exact hb
        · rw [show y = mnQ D m by omega]; exact c2
      rw [ex, ey, Int.toNat_natCast, Int.toNat_natCast] at hx
      have fx := hf x (by omega) hbx
      have fy := hf y (by omega) hby
      rw [ex, ey] at c1 emn
      show bX12_mayBe_2 55 (J (n : Nat)) (J (q : Nat)) u (J m) = _
      unfold bX12_mayBe_2
      simp (disch := first | (simp only [SH_sIi, SH_sLi]; assumption) | assumption | (simp only [nN_sI, nN_sL, nN_sR]; assumption) | omega) only [↓s_nm, ↓s_bnd2, ↓s_some, ↓s_suml, ↓s_sumr, ↓s_nz, ↓gi_q, ↓pi_q, ↓ck_q, ↓gi_gs, ↓gr_gs, ↓g_55_10, ↓g_55_11, ↓g_55_12, ↓g_55_13, ↓g_55_14, ↓g_55_15, ↓g_55_24, ↓g_55_28, ↓g_55_29, ↓g_55_30, ↓g_55_31, ↓g_55_32, ↓g_55_33, ↓g_55_34, ↓g_55_35, ↓g_55_36, ↓g_55_37, ↓g_55_38, ↓g_55_39, ↓g_55_40, ↓g_55_41, ↓g_55_42, ↓g_55_43, ↓g_55_44, ↓g_55_47, ↓g_55_48, ↓g_55_49, ↓g_55_50, ↓g_55_51, ↓g_55_52, ↓g_55_53, ↓g_55_54, ↓al_56, ↓al_57, ↓al_58, ↓al_59, ↓al_61, ↓al_62, ↓al_63, ↓al_64, ↓al_65, ↓al_66, ↓al_67, ↓al_68, ↓al_69, ↓al_70, ↓al_71, ↓al_72, ↓al_73, ↓al_74, ↓al_75, ↓al_76, ↓al_77, ↓al_78, ↓al_79, ↓al_80, ↓al_81, ↓al_82, ↓al_83, ↓al_84, ↓al_85, ↓al_86, ↓al_87, ↓as_56, ↓as_57, ↓as_58, ↓as_59, ↓as_61, ↓as_62, ↓as_63, ↓as_64, ↓as_65, ↓as_66, ↓as_67, ↓as_68, ↓as_69, ↓as_70, ↓as_71, ↓as_72, ↓as_73, ↓as_74, ↓as_75, ↓as_76, ↓as_77, ↓as_78, ↓as_79, ↓as_80, ↓as_81, ↓as_82, ↓as_83, ↓as_84, ↓as_85, ↓as_86, ↓as_87, ↓gi_55, ↓pi_55, ↓ck_55, ↓gi_60, ↓pi_60, ↓ck_60, j0, j1, j2, j3, j4, j5, j6, j7, j8, j9, j10, j11, j12, j13, j14, j15, j16, j17, j18, j19, j20, j21, j24, j25, j30, j31, j32, j36, j41, j48, j49, j57, j59, j60, j63, j64, j81, j97, j99, j100, j122, j255, j300, j400, j500, j999, j1000, j24000, j_add, j_sub, j_mul, j_neg, j_lt, j_le, j_eq, nI_sI, nR_sI, nN_sI, nI_sR, nR_sR, nN_sR, Int.toNat_natCast, true_and, and_true, false_and, and_false, if_true, if_false, reduceIte, Nat.reduceEqDiff, Option.some.injEq, Prod.mk.injEq, k_of, k_add, k_sub, k_mul, k_neg, lg_ltJ, lg_gtJ, lg_eqJ, b_0, b_J0, b_J1, b_retZ, k0, k1, k2, k3, k10, k19, k20, k30, k40, k999, ↓in_b, ↓dayM_b, ↓gsrM_b, ↓isqM_b, Int.add_sub_cancel, not_true, not_false_eq_true, jn1, Bool.false_eq_true, Bool.true_eq_false, reduceCtorEq, m_55_0 hM, m_55_1 hM, m_55_2 hM, m_55_3 hM, m_55_4 hM, m_55_25 hM, m_55_26 hM, m_55_16 hM, m_55_22 hM, m_55_23 hM, m_55_27 hM, m_56 hM, m_57 hM, m_63 hM, m_64 hM, m_65 hM, m_66 hM, m_67 hM, m_68 hM, m_69 hM, m_70 hM, m_61 hM, m_71 hM, m_72 hM, m_73 hM, m_84 hM, show (m : Int) < D 55 27 by omega, ex, ey, mxI_j, mnI_j, c1, emn, bit1 n (mnQ D m) hn (by omega) c2, hT x (by omega) hbx, hT y (by omega) hby, ↓brkM, hx, show ¬ ((1 : Int) = 0) by omega]
    · show bX12_mayBe_2 55 (J (n : Nat)) (J (q : Nat)) u (J (nT D : Nat)) = _
      unfold bX12_mayBe_2
      simp (disch := first | (simp only [SH_sIi, SH_sLi]; assumption) | assumption | (simp only [nN_sI, nN_sL, nN_sR]; assumption) | omega) only [↓s_nm, ↓s_bnd2, ↓s_some, ↓s_suml, ↓s_sumr, ↓s_nz, ↓gi_q, ↓pi_q, ↓ck_q, ↓gi_gs, ↓gr_gs, ↓g_55_10, ↓g_55_11, ↓g_55_12, ↓g_55_13, ↓g_55_14, ↓g_55_15, ↓g_55_24, ↓g_55_28, ↓g_55_29, ↓g_55_30, ↓g_55_31, ↓g_55_32, ↓g_55_33, ↓g_55_34, ↓g_55_35, ↓g_55_36, ↓g_55_37, ↓g_55_38, ↓g_55_39, ↓g_55_40, ↓g_55_41, ↓g_55_42, ↓g_55_43, ↓g_55_44, ↓g_55_47, ↓g_55_48, ↓g_55_49, ↓g_55_50, ↓g_55_51, ↓g_55_52, ↓g_55_53, ↓g_55_54, ↓al_56, ↓al_57, ↓al_58, ↓al_59, ↓al_61, ↓al_62, ↓al_63, ↓al_64, ↓al_65, ↓al_66, ↓al_67, ↓al_68, ↓al_69, ↓al_70, ↓al_71, ↓al_72, ↓al_73, ↓al_74, ↓al_75, ↓al_76, ↓al_77, ↓al_78, ↓al_79, ↓al_80, ↓al_81, ↓al_82, ↓al_83, ↓al_84, ↓al_85, ↓al_86, ↓al_87, ↓as_56, ↓as_57, ↓as_58, ↓as_59, ↓as_61, ↓as_62, ↓as_63, ↓as_64, ↓as_65, ↓as_66, ↓as_67, ↓as_68, ↓as_69, ↓as_70, ↓as_71, ↓as_72, ↓as_73, ↓as_74, ↓as_75, ↓as_76, ↓as_77, ↓as_78, ↓as_79, ↓as_80, ↓as_81, ↓as_82, ↓as_83, ↓as_84, ↓as_85, ↓as_86, ↓as_87, ↓gi_55, ↓pi_55, ↓ck_55, ↓gi_60, ↓pi_60, ↓ck_60, j0, j1, j2, j3, j4, j5, j6, j7, j8, j9, j10, j11, j12, j13, j14, j15, j16, j17, j18, j19, j20, j21, j24, j25, j30, j31, j32, j36, j41, j48, j49, j57, j59, j60, j63, j64, j81, j97, j99, j100, j122, j255, j300, j400, j500, j999, j1000, j24000, j_add, j_sub, j_mul, j_neg, j_lt, j_le, j_eq, nI_sI, nR_sI, nN_sI, nI_sR, nR_sR, nN_sR, Int.toNat_natCast, true_and, and_true, false_and, and_false, if_true, if_false, reduceIte, Nat.reduceEqDiff, Option.some.injEq, Prod.mk.injEq, k_of, k_add, k_sub, k_mul, k_neg, lg_ltJ, lg_gtJ, lg_eqJ, b_0, b_J0, b_J1, b_retZ, k0, k1, k2, k3, k10, k19, k20, k30, k40, k999, ↓in_b, ↓dayM_b, ↓gsrM_b, ↓isqM_b, Int.add_sub_cancel, not_true, not_false_eq_true, jn1, Bool.false_eq_true, Bool.true_eq_false, reduceCtorEq, m_55_0 hM, m_55_1 hM, m_55_2 hM, m_55_3 hM, m_55_4 hM, m_55_25 hM, m_55_26 hM, m_55_16 hM, m_55_22 hM, m_55_23 hM, m_55_27 hM, m_56 hM, m_57 hM, m_63 hM, m_64 hM, m_65 hM, m_66 hM, m_67 hM, m_68 hM, m_69 hM, m_70 hM, m_61 hM, m_71 hM, m_72 hM, m_73 hM, m_84 hM, show ¬ (((nT D : Nat) : Int) < D 55 27) by omega]
  refine b_bind ?_
  unfold fX12_mayBe bad
  rw [e]
  cases anyN (fun k => td D n q k && brk (D 73 k) (f (D 71 k).toNat) (f (D 72 k).toNat)) (nT D) <;> rfl
theorem mfM (hC : OkC C) (hD : OkD C D) (hn : n < 2147483648) (hh : ∀ x, x < nQ C → bt n x = 1 → 0 ≤ h x ∧ h x ≤ 10) : ∀ (k F : Nat) (f : Nat → Int) (s : Int) (st : Lf) (v : Mem), k ≤ nQ C → k < F → MM C D n h v → RepN n f (nQ C - k) v → FOK n f (nQ C - k) → RepE n (nQ C) st v → 0 ≤ s → s ≤ 10 * (nQ C - k : Nat) →
    ∃ v', fX12_mendFrom F 55 (J (n : Nat)) (J ((nQ C - k : Nat) : Int)) (J s) v = some v' ∧ Fr PMm v v' ∧ RepN n f (nQ C - k) v' ∧ RepE n (nQ C) (fo st (lvs D n (nQ C) h k f s)) v' := by
  have hqq := hC.q
  intro k
  induction k with
  | zero =>
    intro F f s st v hk hF hX hT hf hB hs1 hs2
    obtain ⟨F, rfl⟩ : ∃ F', F = F' + 1 := ⟨F - 1, by omega⟩
    have hX0 := hX
    obtain ⟨hS, hM, hhd⟩ := hX
    obtain ⟨b1, b2, b3⟩ := hB
    rw [Nat.sub_zero] at *
    by_cases w : s < st.1
    · have hlp := lp_inv (f := fun r : Int32 × Mem => bX12_mendFrom_25 (fX12_mendFrom F) 55 r.1 r.2) (E := fun v' => Fr PMm v v' ∧ mI v' 55 55 = J s ∧ RepN n f (nQ C) v' ∧ ∀ x, x < nQ C → mI v' 87 x = mI v' 85 x)
        (fun m r => r.1 = J (m : Nat) ∧ Fr PMm v r.2 ∧ mI r.2 55 55 = J s ∧ RepN n f (nQ C) r.2 ∧ ∀ x, x < m → mI r.2 87 x = mI r.2 85 x) (nQ C) (F := FU) (s := (J 0, sI v 55 55 (J s))) ⟨rfl, Fr.rfl.sI (by unfold PMm; omega), by show mI (sI v 55 55 (J s)) 55 55 = J s; simp [mI_sI], fun x hx hbx => by show mI (sI v 55 55 (J s)) 85 x = _; rw [mI_sI, if_neg (by omega)]; exact hT x hx hbx, fun x hx => by omega⟩ ?_ ?_ (FU_gt (by omega))
      · obtain ⟨v', y1, y2, y3, y4, y5⟩ := hlp
        refine ⟨v', ?_, y2, y4, ?_⟩
        · show gX12_mendFrom (fX12_mendFrom F) 55 _ _ _ v = _
          unfold gX12_mendFrom
          simp (disch := first | (simp only [SH_sIi, SH_sLi]; assumption) | assumption | (simp only [nN_sI, nN_sL, nN_sR]; assumption) | omega) only [↓s_nm, ↓s_bnd2, ↓s_some, ↓s_suml, ↓s_sumr, ↓s_nz, ↓gi_q, ↓pi_q, ↓ck_q, ↓gi_gs, ↓gr_gs, ↓g_55_10, ↓g_55_11, ↓g_55_12, ↓g_55_13, ↓g_55_14, ↓g_55_15, ↓g_55_24, ↓g_55_28, ↓g_55_29, ↓g_55_30, ↓g_55_31, ↓g_55_32, ↓g_55_33, ↓g_55_34, ↓g_55_35, ↓g_55_36, ↓g_55_37, ↓g_55_38, ↓g_55_39, ↓g_55_40, ↓g_55_41, ↓g_55_42, ↓g_55_43, ↓g_55_44, ↓g_55_47, ↓g_55_48, ↓g_55_49, ↓g_55_50, ↓g_55_51, ↓g_55_52, ↓g_55_53, ↓g_55_54, ↓al_56, ↓al_57, ↓al_58, ↓al_59, ↓al_61, ↓al_62, ↓al_63, ↓al_64, ↓al_65, ↓al_66, ↓al_67, ↓al_68, ↓al_69, ↓al_70, ↓al_71, ↓al_72, ↓al_73, ↓al_74, ↓al_75, ↓al_76, ↓al_77, ↓al_78, ↓al_79, ↓al_80, ↓al_81, ↓al_82, ↓al_83, ↓al_84, ↓al_85, ↓al_86, ↓al_87, ↓as_56, ↓as_57, ↓as_58, ↓as_59, ↓as_61, ↓as_62, ↓as_63, ↓as_64, ↓as_65, ↓as_66, ↓as_67, ↓as_68, ↓as_69, ↓as_70, ↓as_71, ↓as_72, ↓as_73, ↓as_74, ↓as_75, ↓as_76, ↓as_77, ↓as_78, ↓as_79, ↓as_80, ↓as_81, ↓as_82, ↓as_83, ↓as_84, ↓as_85, ↓as_86, ↓as_87, ↓gi_55, ↓pi_55, ↓ck_55, ↓gi_60, ↓pi_60, ↓ck_60, j0, j1, j2, j3, j4, j5, j6, j7, j8, j9, j10, j11, j12, j13, j14, j15, j16, j17, j18, j19, j20, j21, j24, j25, j30, j31, j32, j36, j41, j48, j49, j57, j59, j60, j63, j64, j81, j97, j99, j100, j122, j255, j300, j400, j500, j999, j1000, j24000, j_add, j_sub, j_mul, j_neg, j_lt, j_le, j_eq, nI_sI, nR_sI, nN_sI, nI_sR, nR_sR, nN_sR, Int.toNat_natCast, true_and, and_true, false_and, and_false, if_true, if_false, reduceIte, Nat.reduceEqDiff, Option.some.injEq, Prod.mk.injEq, k_of, k_add, k_sub, k_mul, k_neg, lg_ltJ, lg_gtJ, lg_eqJ, b_0, b_J0, b_J1, b_retZ, k0, k1, k2, k3, k10, k19, k20, k30, k40, k999, ↓in_b, ↓dayM_b, ↓gsrM_b, ↓isqM_b, Int.add_sub_cancel, not_true, not_false_eq_true, jn1, Bool.false_eq_true, Bool.true_eq_false, reduceCtorEq, m_55_0 hM, m_55_1 hM, m_55_2 hM, m_55_3 hM, m_55_4 hM, m_55_25 hM, m_55_26 hM, m_55_16 hM, m_55_22 hM, m_55_23 hM, m_55_27 hM, m_56 hM, m_57 hM, m_63 hM, m_64 hM, m_65 hM, m_66 hM, m_67 hM, m_68 hM, m_69 hM, m_70 hM, m_61 hM, m_71 hM, m_72 hM, m_73 hM, m_84 hM, b1, w, show ((nQ C : Nat) : Int) = C 55 25 by omega]
          rw [y1]
          rfl
        · have e : fo st (lvs D n (nQ C) h 0 f s) = (s, f) := by
            show tk st (s, f) = _
            unfold tk
            rw [if_pos w]
          rw [e]
          refine ⟨y3, ⟨hs1, by omega⟩, fun x hx hbx => ?_⟩
          rw [y5 x hx]
          exact y4 x hx hbx
      · rintro m ⟨r, w1⟩ hm ⟨i1, i2, i3, i4, i5⟩
        simp only at i1 i2 i3 i4 i5
        subst i1
        have hX1 := MM_fr hX0 i2 fun a k h => h
        have s1 := hX1.1
        have hM1 := hX1.2.1
        refine ⟨(J (m + 1 : Nat), sI w1 87 m (mI w1 85 m)), ?_, rfl, i2.sI (by unfold PMm; omega), ?_, fun x hx hbx => ?_, fun x hx => ?_⟩
        · show bX12_mendFrom_25 (fX12_mendFrom F) 55 (J m) w1 = _
          unfold bX12_mendFrom_25
          simp (disch := first | (simp only [SH_sIi, SH_sLi]; assumption) | assumption | (simp only [nN_sI, nN_sL, nN_sR]; assumption) | omega) only [↓s_nm, ↓s_bnd2, ↓s_some, ↓s_suml, ↓s_sumr, ↓s_nz, ↓gi_q, ↓pi_q, ↓ck_q, ↓gi_gs, ↓gr_gs, ↓g_55_10, ↓g_55_11, ↓g_55_12, ↓g_55_13, ↓g_55_14, ↓g_55_15, ↓g_55_24, ↓g_55_28, ↓g_55_29, ↓g_55_30, ↓g_55_31, ↓g_55_32, ↓g_55_33, ↓g_55_34, ↓g_55_35, ↓g_55_36, ↓g_55_37, ↓g_55_38, ↓g_55_39, ↓g_55_40, ↓g_55_41, ↓g_55_42, ↓g_55_43, ↓g_55_44, ↓g_55_47, ↓g_55_48, ↓g_55_49, ↓g_55_50, ↓g_55_51, ↓g_55_52, ↓g_55_53, ↓g_55_54, ↓al_56, ↓al_57, ↓al_58, ↓al_59, ↓al_61, ↓al_62, ↓al_63, ↓al_64, ↓al_65, ↓al_66, ↓al_67, ↓al_68, ↓al_69, ↓al_70, ↓al_71, ↓al_72, ↓al_73, ↓al_74, ↓al_75, ↓al_76, ↓al_77, ↓al_78, ↓al_79, ↓al_80, ↓al_81, ↓al_82, ↓al_83, ↓al_84, ↓al_85, ↓al_86, ↓al_87, ↓as_56, ↓as_57, ↓as_58, ↓as_59, ↓as_61, ↓as_62, ↓as_63, ↓as_64, ↓as_65, ↓as_66, ↓as_67, ↓as_68, ↓as_69, ↓as_70, ↓as_71, ↓as_72, ↓as_73, ↓as_74, ↓as_75, ↓as_76, ↓as_77, ↓as_78, ↓as_79, ↓as_80, ↓as_81, ↓as_82, ↓as_83, ↓as_84, ↓as_85, ↓as_86, ↓as_87, ↓gi_55, ↓pi_55, ↓ck_55, ↓gi_60, ↓pi_60, ↓ck_60, j0, j1, j2, j3, j4, j5, j6, j7, j8, j9, j10, j11, j12, j13, j14, j15, j16, j17, j18, j19, j20, j21, j24, j25, j30, j31, j32, j36, j41, j48, j49, j57, j59, j60, j63, j64, j81, j97, j99, j100, j122, j255, j300, j400, j500, j999, j1000, j24000, j_add, j_sub, j_mul, j_neg, j_lt, j_le, j_eq, nI_sI, nR_sI, nN_sI, nI_sR, nR_sR, nN_sR, Int.toNat_natCast, true_and, and_true, false_and, and_false, if_true, if_false, reduceIte, Nat.reduceEqDiff, Option.some.injEq, Prod.mk.injEq, k_of, k_add, k_sub, k_mul, k_neg, lg_ltJ, lg_gtJ, lg_eqJ, b_0, b_J0, b_J1, b_retZ, k0, k1, k2, k3, k10, k19, k20, k30, k40, k999, ↓in_b, ↓dayM_b, ↓gsrM_b, ↓isqM_b, Int.add_sub_cancel, not_true, not_false_eq_true, jn1, Bool.false_eq_true, Bool.true_eq_false, reduceCtorEq, m_55_0 hM1, m_55_1 hM1, m_55_2 hM1, m_55_3 hM1, m_55_4 hM1, m_55_25 hM1, m_55_26 hM1, m_55_16 hM1, m_55_22 hM1, m_55_23 hM1, m_55_27 hM1, m_56 hM1, m_57 hM1, m_63 hM1, m_64 hM1, m_65 hM1, m_66 hM1, m_67 hM1, m_68 hM1, m_69 hM1, m_70 hM1, m_61 hM1, m_71 hM1, m_72 hM1, m_73 hM1, m_84 hM1, show (m : Int) < C 55 25 by omega]
        · show mI (sI w1 87 m _) 55 55 = _
          rw [mI_sI, if_neg (by omega)]; exact i3
        · show mI (sI w1 87 m _) 85 x = _
          rw [mI_sI, if_neg (by omega)]; exact i4 x hx hbx
        · show mI (sI w1 87 m _) 87 x = mI (sI w1 87 m _) 85 x
          rw [mI_sI, mI_sI, if_neg (show ¬ (85 = 87 ∧ x = m) by omega)]
          by_cases hxm : x = m
          · rw [if_pos ⟨rfl, hxm⟩, hxm]
          · rw [if_neg fun y => hxm y.2]; exact i5 x (by omega)
      · rintro ⟨r, w1⟩ ⟨i1, i2, i3, i4, i5⟩
        simp only at i1 i2 i3 i4 i5
        subst i1
        have hX1 := MM_fr hX0 i2 fun a k h => h
        have s1 := hX1.1
        have hM1 := hX1.2.1
        refine ⟨w1, ?_, i2, i3, i4, i5⟩
        show bX12_mendFrom_25 (fX12_mendFrom F) 55 (J (nQ C : Nat)) w1 = _
        unfold bX12_mendFrom_25
        simp (disch := first | (simp only [SH_sIi, SH_sLi]; assumption) | assumption | (simp only [nN_sI, nN_sL, nN_sR]; assumption) | omega) only [↓s_nm, ↓s_bnd2, ↓s_some, ↓s_suml, ↓s_sumr, ↓s_nz, ↓gi_q, ↓pi_q, ↓ck_q, ↓gi_gs, ↓gr_gs, ↓g_55_10, ↓g_55_11, ↓g_55_12, ↓g_55_13, ↓g_55_14, ↓g_55_15, ↓g_55_24, ↓g_55_28, ↓g_55_29, ↓g_55_30, ↓g_55_31, ↓g_55_32, ↓g_55_33, ↓g_55_34, ↓g_55_35, ↓g_55_36, ↓g_55_37, ↓g_55_38, ↓g_55_39, ↓g_55_40, ↓g_55_41, ↓g_55_42, ↓g_55_43, ↓g_55_44, ↓g_55_47, ↓g_55_48, ↓g_55_49, ↓g_55_50, ↓g_55_51, ↓g_55_52, ↓g_55_53, ↓g_55_54, ↓al_56, ↓al_57, ↓al_58, ↓al_59, ↓al_61, ↓al_62, ↓al_63, ↓al_64, ↓al_65, ↓al_66, ↓al_67, ↓al_68, ↓al_69, ↓al_70, ↓al_71, ↓al_72, ↓al_73, ↓al_74, ↓al_75, ↓al_76, ↓al_77, ↓al_78, ↓al_79, ↓al_80, ↓al_81, ↓al_82, ↓al_83, ↓al_84, ↓al_85, ↓al_86, ↓al_87, ↓as_56, ↓as_57, ↓as_58, ↓as_59, ↓as_61, ↓as_62, ↓as_63, ↓as_64, ↓as_65, ↓as_66, ↓as_67, ↓as_68, ↓as_69, ↓as_70, ↓as_71, ↓as_72, ↓as_73, ↓as_74, ↓as_75, ↓as_76, ↓as_77, ↓as_78, ↓as_79, ↓as_80, ↓as_81, ↓as_82, ↓as_83, ↓as_84, ↓as_85, ↓as_86, ↓as_87, ↓gi_55, ↓pi_55, ↓ck_55, ↓gi_60, ↓pi_60, ↓ck_60, j0, j1, j2, j3, j4, j5, j6, j7, j8, j9, j10, j11, j12, j13, j14, j15, j16, j17, j18, j19, j20, j21, j24, j25, j30, j31, j32, j36, j41, j48, j49, j57, j59, j60, j63, j64, j81, j97, j99, j100, j122, j255, j300, j400, j500, j999, j1000, j24000, j_add, j_sub, j_mul, j_neg, j_lt, j_le, j_eq, nI_sI, nR_sI, nN_sI, nI_sR, nR_sR, nN_sR, Int.toNat_natCast, true_and, and_true, false_and, and_false, if_true, if_false, reduceIte, Nat.reduceEqDiff, Option.some.injEq, Prod.mk.injEq, k_of, k_add, k_sub, k_mul, k_neg, lg_ltJ, lg_gtJ, lg_eqJ, b_0, b_J0, b_J1, b_retZ, k0, k1, k2, k3, k10, k19, k20, k30, k40, k999, ↓in_b, ↓dayM_b, ↓gsrM_b, ↓isqM_b, Int.add_sub_cancel, not_true, not_false_eq_true, jn1, Bool.false_eq_true, Bool.true_eq_false, reduceCtorEq, m_55_0 hM1, m_55_1 hM1, m_55_2 hM1, m_55_3 hM1, m_55_4 hM1, m_55_25 hM1, m_55_26 hM1, m_55_16 hM1, m_55_22 hM1, m_55_23 hM1, m_55_27 hM1, m_56 hM1, m_57 hM1, m_63 hM1, m_64 hM1, m_65 hM1, m_66 hM1, m_67 hM1, m_68 hM1, m_69 hM1, m_70 hM1, m_61 hM1, m_71 hM1, m_72 hM1, m_73 hM1, m_84 hM1, show ¬ (((nQ C : Nat) : Int) < C 55 25) by omega]
    · refine ⟨v, ?_, Fr.rfl, hT, ?_⟩
      · show gX12_mendFrom (fX12_mendFrom F) 55 _ _ _ v = _
        unfold gX12_mendFrom
        simp (disch := first | (simp only [SH_sIi, SH_sLi]; assumption) | assumption | (simp only [nN_sI, nN_sL, nN_sR]; assumption) | omega) only [↓s_nm, ↓s_bnd2, ↓s_some, ↓s_suml, ↓s_sumr, ↓s_nz, ↓gi_q, ↓pi_q, ↓ck_q, ↓gi_gs, ↓gr_gs, ↓g_55_10, ↓g_55_11, ↓g_55_12, ↓g_55_13, ↓g_55_14, ↓g_55_15, ↓g_55_24, ↓g_55_28, ↓g_55_29, ↓g_55_30, ↓g_55_31, ↓g_55_32, ↓g_55_33, ↓g_55_34, ↓g_55_35, ↓g_55_36, ↓g_55_37, ↓g_55_38, ↓g_55_39, ↓g_55_40, ↓g_55_41, ↓g_55_42, ↓g_55_43, ↓g_55_44, ↓g_55_47, ↓g_55_48, ↓g_55_49, ↓g_55_50, ↓g_55_51, ↓g_55_52, ↓g_55_53, ↓g_55_54, ↓al_56, ↓al_57, ↓al_58, ↓al_59, ↓al_61, ↓al_62, ↓al_63, ↓al_64, ↓al_65, ↓al_66, ↓al_67, ↓al_68, ↓al_69, ↓al_70, ↓al_71, ↓al_72, ↓al_73, ↓al_74, ↓al_75, ↓al_76, ↓al_77, ↓al_78, ↓al_79, ↓al_80, ↓al_81, ↓al_82, ↓al_83, ↓al_84, ↓al_85, ↓al_86, ↓al_87, ↓as_56, ↓as_57, ↓as_58, ↓as_59, ↓as_61, ↓as_62, ↓as_63, ↓as_64, ↓as_65, ↓as_66, ↓as_67, ↓as_68, ↓as_69, ↓as_70, ↓as_71, ↓as_72, ↓as_73, ↓as_74, ↓as_75, ↓as_76, ↓as_77, ↓as_78, ↓as_79, ↓as_80, ↓as_81, ↓as_82, ↓as_83, ↓as_84, ↓as_85, ↓as_86, ↓as_87, ↓gi_55, ↓pi_55, ↓ck_55, ↓gi_60, ↓pi_60, ↓ck_60, j0, j1, j2, j3, j4, j5, j6, j7, j8, j9, j10, j11, j12, j13, j14, j15, j16, j17, j18, j19, j20, j21, j24, j25, j30, j31, j32, j36, j41, j48, j49, j57, j59, j60, j63, j64, j81, j97, j99, j100, j122, j255, j300, j400, j500, j999, j1000, j24000, j_add, j_sub, j_mul, j_neg, j_lt, j_le, j_eq, nI_sI, nR_sI, nN_sI, nI_sR, nR_sR, nN_sR, Int.toNat_natCast, true_and, and_true, false_and, and_false, if_true, if_false, reduceIte, Nat.reduceEqDiff, Option.some.injEq, Prod.mk.injEq, k_of, k_add, k_sub, k_mul, k_neg, lg_ltJ, lg_gtJ, lg_eqJ, b_0, b_J0, b_J1, b_retZ, k0, k1, k2, k3, k10, k19, k20, k30, k40, k999, ↓in_b, ↓dayM_b, ↓gsrM_b, ↓isqM_b, Int.add_sub_cancel, not_true, not_false_eq_true, jn1, Bool.false_eq_true, Bool.true_eq_false, reduceCtorEq, b1, w]
      · rw [fo_ge _ _ fun x hx => by have := lvs_ge _ _ _ x hx; omega]
        exact ⟨b1, b2, b3⟩
  | succ k ih =>
    intro F f s st v hk hF hX hT hf hB hs1 hs2
    obtain ⟨F, rfl⟩ : ∃ F', F = F' + 1 := ⟨F - 1, by omega⟩
    have hq1 : nQ C - (k + 1) + 1 = nQ C - k := by omega
    have hqN : nQ C - (k + 1) < nQ C := by omega
    have hX0 := hX
    obtain ⟨hS, hM, hhd⟩ := hX
    have hB0 := hB
    obtain ⟨b1, b2, b3⟩ := hB
    by_cases w : s < st.1
    · by_cases hb : bt n (nQ C - (k + 1)) = 1
      · rw [lvs_1 hb]
        generalize hqq2 : nQ C - (k + 1) = q at *
        have hlp := lp_inv (f := fun r : Int32 × Mem => bX12_mendFrom_76 (fX12_mendFrom F) 55 (J (n : Nat)) (J (q : Nat)) (J s) r.1 r.2) (E := fun v' => Fr PMm v v' ∧ RepN n f q v' ∧ RepE n (nQ C) (fo st (lvT D n (nQ C) h k f s 11)) v')
          (fun m r => r.1 = J (m : Nat) ∧ Fr PMm v r.2 ∧ RepN n f q r.2 ∧ RepE n (nQ C) (fo st (lvT D n (nQ C) h k f s m)) r.2) 11 (F := FU) (s := (J 0, v)) ⟨rfl, Fr.rfl, hT, hB0⟩ ?_ ?_ (FU_gt (by omega))
        · obtain ⟨v', y1, y2, y3, y4⟩ := hlp
          refine ⟨v', ?_, y2, y3, y4⟩
          show gX12_mendFrom (fX12_mendFrom F) 55 _ _ _ v = _
          unfold gX12_mendFrom
          simp (disch := first | (simp only [SH_sIi, SH_sLi]; assumption) | assumption | (simp only [nN_sI, nN_sL, nN_sR]; assumption) | omega) only [↓s_nm, ↓s_bnd2, ↓s_some, ↓s_suml, ↓s_sumr, ↓s_nz, ↓gi_q, ↓pi_q, ↓ck_q, ↓gi_gs, ↓gr_gs, ↓g_55_10, ↓g_55_11, ↓g_55_12, ↓g_55_13, ↓g_55_14, ↓g_55_15, ↓g_55_24, ↓g_55_28, ↓g_55_29, ↓g_55_30, ↓g_55_31, ↓g_55_32, ↓g_55_33, ↓g_55_34, ↓g_55_35, ↓g_55_36, ↓g_55_37, ↓g_55_38, ↓g_55_39, ↓g_55_40, ↓g_55_41, ↓g_55_42, ↓g_55_43, ↓g_55_44, ↓g_55_47, ↓g_55_48, ↓g_55_49, ↓g_55_50, ↓g_55_51, ↓g_55_52, ↓g_55_53, ↓g_55_54, ↓al_56, ↓al_57, ↓al_58, ↓al_59, ↓al_61, ↓al_62, ↓al_63, ↓al_64, ↓al_65, ↓al_66, ↓al_67, ↓al_68, ↓al_69, ↓al_70, ↓al_71, ↓al_72, ↓al_73, ↓al_74, ↓al_75, ↓al_76, ↓al_77, ↓al_78, ↓al_79, ↓al_80, ↓al_81, ↓al_82, ↓al_83, ↓al_84, ↓al_85, ↓al_86, ↓al_87, ↓as_56, ↓as_57, ↓as_58, ↓as_59, ↓as_61, ↓as_62, ↓as_63, ↓as_64, ↓as_65, ↓as_66, ↓as_67, ↓as_68, ↓as_69, ↓as_70, ↓as_71, ↓as_72, ↓as_73, ↓as_74, ↓as_75, ↓as_76, ↓as_77, ↓as_78, ↓as_79, ↓as_80, ↓as_81, ↓as_82, ↓as_83, ↓as_84, ↓as_85, ↓as_86, ↓as_87, ↓gi_55, ↓pi_55, ↓ck_55, ↓gi_60, ↓pi_60, ↓ck_60, j0, j1, j2, j3, j4, j5, j6, j7, j8, j9, j10, j11, j12, j13, j14, j15, j16, j17, j18, j19, j20, j21, j24, j25, j30, j31, j32, j36, j41, j48, j49, j57, j59, j60, j63, j64, j81, j97, j99, j100, j122, j255, j300, j400, j500, j999, j1000, j24000, j_add, j_sub, j_mul, j_neg, j_lt, j_le, j_eq, nI_sI, nR_sI, nN_sI, nI_sR, nR_sR, nN_sR, Int.toNat_natCast, true_and, and_true, false_and, and_false, if_true, if_false, reduceIte, Nat.reduceEqDiff, Option.some.injEq, Prod.mk.injEq, k_of, k_add, k_sub, k_mul, k_neg, lg_ltJ, lg_gtJ, lg_eqJ, b_0, b_J0, b_J1, b_retZ, k0, k1, k2, k3, k10, k19, k20, k30, k40, k999, ↓in_b, ↓dayM_b, ↓gsrM_b, ↓isqM_b, Int.add_sub_cancel, not_true, not_false_eq_true, jn1, Bool.false_eq_true, Bool.true_eq_false, reduceCtorEq, m_55_0 hM, m_55_1 hM, m_55_2 hM, m_55_3 hM, m_55_4 hM, m_55_25 hM, m_55_26 hM, m_55_16 hM, m_55_22 hM, m_55_23 hM, m_55_27 hM, m_56 hM, m_57 hM, m_63 hM, m_64 hM, m_65 hM, m_66 hM, m_67 hM, m_68 hM, m_69 hM, m_70 hM, m_61 hM, m_71 hM, m_72 hM, m_73 hM, m_84 hM, b1, w, show ¬ (((q : Nat) : Int) = C 55 25) by omega, bit1 n q hn (by omega) hb, show ¬ ((1 : Int) = 0) by omega]
          rw [y1]
          rfl
        · rintro tt ⟨r, w1⟩ htt ⟨i1, i2, i3, i4⟩
          simp only at i1 i2 i3 i4
          subst i1
          have hX1 := MM_fr hX0 i2 fun a k h => h
          have s1 := hX1.1
          have hhq := hh q hqN hb
          obtain ⟨w2, ew2⟩ : ∃ w2, w2 = sI w1 85 q (J (tt : Nat)) := ⟨_, rfl⟩
          have sw2 : SH w2 := by rw [ew2]; exact s1
          have fw2 : Fr PMm w1 w2 := by rw [ew2]; exact Fr.rfl.sI (by unfold PMm; omega)
          have hX2 := MM_fr hX1 fw2 fun a k h => h
          have hM2 := hX2.2.1
          have hw2 := hX2.2.2 q hqN hb
          have hT2 : RepN n (updF f q (tt : Nat)) (q + 1) w2 := by
            intro x hx hbx
            unfold updF
            rw [ew2, mI_sI]
            by_cases hxq : x = q
            · rw [if_pos hxq, if_pos ⟨rfl, hxq⟩]
            · rw [if_neg hxq, if_neg fun y => hxq y.2]
              exact i3 x (by omega) hbx
          have hf2 : FOK n (updF f q (tt : Nat)) (q + 1) := by
            intro x hx hbx
            unfold updF
            by_cases hxq : x = q
            · rw [if_pos hxq]; omega
            · rw [if_neg hxq]; exact hf x (by omega) hbx
          have hB2 : RepE n (nQ C) (fo st (lvT D n (nQ C) h k f s tt)) w2 := by
            obtain ⟨x1, x2, x3⟩ := i4
            refine ⟨by rw [ew2, mI_sI, if_neg (by omega)]; exact x1, x2, fun x hx hbx => ?_⟩
            rw [ew2, mI_sI, if_neg (by omega)]
            exact x3 x hx hbx
          have hback : ∀ w3, RepN n (updF f q (tt : Nat)) (q + 1) w3 → RepN n f q w3 := by
            intro w3 hw x hx hbx
            have hxx := hw x (by omega) hbx
            unfold updF at hxx
            rw [if_neg (by omega)] at hxx
            exact hxx
          by_cases hbd : bad D n (updF f q (tt : Nat)) q = false
          · have habs : ab ((tt : Nat) - h q) ≤ 10 ∧ 0 ≤ ab ((tt : Nat) - h q) := by unfold ab; omega
            obtain ⟨w3, z1, z2, z3, z4⟩ := ih F (updF f q (tt : Nat)) (s + ab ((tt : Nat) - h q)) _ w2 (by omega) (by omega) hX2 (by rw [← hq1]; exact hT2) (by rw [← hq1]; exact hf2) hB2 (by omega) (by omega)
            refine ⟨(J (tt + 1 : Nat), w3), ?_, rfl, (i2.trans fw2).trans z2, hback w3 (by rw [hq1]; exact z3), ?_⟩
            · show bX12_mendFrom_76 (fX12_mendFrom F) 55 (J (n : Nat)) (J (q : Nat)) (J s) (J tt) w1 = _
              unfold bX12_mendFrom_76
              simp (disch := first | (simp only [SH_sIi, SH_sLi]; assumption) | assumption | (simp only [nN_sI, nN_sL, nN_sR]; assumption) | omega) only [↓s_nm, ↓s_bnd2, ↓s_some, ↓s_suml, ↓s_sumr, ↓s_nz, ↓gi_q, ↓pi_q, ↓ck_q, ↓gi_gs, ↓gr_gs, ↓g_55_10, ↓g_55_11, ↓g_55_12, ↓g_55_13, ↓g_55_14, ↓g_55_15, ↓g_55_24, ↓g_55_28, ↓g_55_29, ↓g_55_30, ↓g_55_31, ↓g_55_32, ↓g_55_33, ↓g_55_34, ↓g_55_35, ↓g_55_36, ↓g_55_37, ↓g_55_38, ↓g_55_39, ↓g_55_40, ↓g_55_41, ↓g_55_42, ↓g_55_43, ↓g_55_44, ↓g_55_47, ↓g_55_48, ↓g_55_49, ↓g_55_50, ↓g_55_51, ↓g_55_52, ↓g_55_53, ↓g_55_54, ↓al_56, ↓al_57, ↓al_58, ↓al_59, ↓al_61, ↓al_62, ↓al_63, ↓al_64, ↓al_65, ↓al_66, ↓al_67, ↓al_68, ↓al_69, ↓al_70, ↓al_71, ↓al_72, ↓al_73, ↓al_74, ↓al_75, ↓al_76, ↓al_77, ↓al_78, ↓al_79, ↓al_80, ↓al_81, ↓al_82, ↓al_83, ↓al_84, ↓al_85, ↓al_86, ↓al_87, ↓as_56, ↓as_57, ↓as_58, ↓as_59, ↓as_61, ↓as_62, ↓as_63, ↓as_64, ↓as_65, ↓as_66, ↓as_67, ↓as_68, ↓as_69, ↓as_70, ↓as_71, ↓as_72, ↓as_73, ↓as_74, ↓as_75, ↓as_76, ↓as_77, ↓as_78, ↓as_79, ↓as_80, ↓as_81, ↓as_82, ↓as_83, ↓as_84, ↓as_85, ↓as_86, ↓as_87, ↓gi_55, ↓pi_55, ↓ck_55, ↓gi_60, ↓pi_60, ↓ck_60, j0, j1, j2, j3, j4, j5, j6, j7, j8, j9, j10, j11, j12, j13, j14, j15, j16, j17, j18, j19, j20, j21, j24, j25, j30, j31, j32, j36, j41, j48, j49, j57, j59, j60, j63, j64, j81, j97, j99, j100, j122, j255, j300, j400, j500, j999, j1000, j24000, j_add, j_sub, j_mul, j_neg, j_lt, j_le, j_eq, nI_sI, nR_sI, nN_sI, nI_sR, nR_sR, nN_sR, Int.toNat_natCast, true_and, and_true, false_and, and_false, if_true, if_false, reduceIte, Nat.reduceEqDiff, Option.some.injEq, Prod.mk.injEq, k_of, k_add, k_sub, k_mul, k_neg, lg_ltJ, lg_gtJ, lg_eqJ, b_0, b_J0, b_J1, b_retZ, k0, k1, k2, k3, k10, k19, k20, k30, k40, k999, ↓in_b, ↓dayM_b, ↓gsrM_b, ↓isqM_b, Int.add_sub_cancel, not_true, not_false_eq_true, jn1, Bool.false_eq_true, Bool.true_eq_false, reduceCtorEq, show (tt : Int) < 11 by omega]
              rw [← ew2, mayM hC hD hX2 hn hqN hb hf2 hT2]
              simp (disch := first | (simp only [SH_sIi, SH_sLi]; assumption) | assumption | (simp only [nN_sI, nN_sL, nN_sR]; assumption) | omega) only [↓s_nm, ↓s_bnd2, ↓s_some, ↓s_suml, ↓s_sumr, ↓s_nz, ↓gi_q, ↓pi_q, ↓ck_q, ↓gi_gs, ↓gr_gs, ↓g_55_10, ↓g_55_11, ↓g_55_12, ↓g_55_13, ↓g_55_14, ↓g_55_15, ↓g_55_24, ↓g_55_28, ↓g_55_29, ↓g_55_30, ↓g_55_31, ↓g_55_32, ↓g_55_33, ↓g_55_34, ↓g_55_35, ↓g_55_36, ↓g_55_37, ↓g_55_38, ↓g_55_39, ↓g_55_40, ↓g_55_41, ↓g_55_42, ↓g_55_43, ↓g_55_44, ↓g_55_47, ↓g_55_48, ↓g_55_49, ↓g_55_50, ↓g_55_51, ↓g_55_52, ↓g_55_53, ↓g_55_54, ↓al_56, ↓al_57, ↓al_58, ↓al_59, ↓al_61, ↓al_62, ↓al_63, ↓al_64, ↓al_65, ↓al_66, ↓al_67, ↓al_68, ↓al_69, ↓al_70, ↓al_71, ↓al_72, ↓al_73, ↓al_74, ↓al_75, ↓al_76, ↓al_77, ↓al_78, ↓al_79, ↓al_80, ↓al_81, ↓al_82, ↓al_83, ↓al_84, ↓al_85, ↓al_86, ↓al_87, ↓as_56, ↓as_57, ↓as_58, ↓as_59, ↓as_61, ↓as_62, ↓as_63, ↓as_64, ↓as_65, ↓as_66, ↓as_67, ↓as_68, ↓as_69, ↓as_70, ↓as_71, ↓as_72, ↓as_73, ↓as_74, ↓as_75, ↓as_76, ↓as_77, ↓as_78, ↓as_79, ↓as_80, ↓as_81, ↓as_82, ↓as_83, ↓as_84, ↓as_85, ↓as_86, ↓as_87, ↓gi_55, ↓pi_55, ↓ck_55, ↓gi_60, ↓pi_60, ↓ck_60, j0, j1, j2, j3, j4, j5, j6, j7, j8, j9, j10, j11, j12, j13, j14, j15, j16, j17, j18, j19, j20, j21, j24, j25, j30, j31, j32, j36, j41, j48, j49, j57, j59, j60, j63, j64, j81, j97, j99, j100, j122, j255, j300, j400, j500, j999, j1000, j24000, j_add, j_sub, j_mul, j_neg, j_lt, j_le, j_eq, nI_sI, nR_sI, nN_sI, nI_sR, nR_sR, nN_sR, Int.toNat_natCast, true_and, and_true, false_and, and_false, if_true, if_false, reduceIte, Nat.reduceEqDiff, Option.some.injEq, Prod.mk.injEq, k_of, k_add, k_sub, k_mul, k_neg, lg_ltJ, lg_gtJ, lg_eqJ, b_0, b_J0, b_J1, b_retZ, k0, k1, k2, k3, k10, k19, k20, k30, k40, k999, ↓in_b, ↓dayM_b, ↓gsrM_b, ↓isqM_b, Int.add_sub_cancel, not_true, not_false_eq_true, jn1, Bool.false_eq_true, Bool.true_eq_false, reduceCtorEq, hbd, hw2, hX1.2.2 q hqN hb, abI_j]
              rw [show ((q : Nat) : Int) + 1 = ((nQ C - k : Nat) : Int) by omega, show s + ((((tt : Nat) : Int) - h q).natAbs : Int) = s + ab ((tt : Nat) - h q) from rfl, z1]
              rfl
            · show RepE n (nQ C) (fo st (lvT D n (nQ C) h k f s (tt + 1))) w3
              rw [lvT_s, fo_app]
              unfold brn
              rw [hqq2, if_neg (by rw [hbd]; simp)]
              exact z4
          · refine ⟨(J (tt + 1 : Nat), w2), ?_, rfl, i2.trans fw2, hback w2 hT2, ?_⟩
            · show bX12_mendFrom_76 (fX12_mendFrom F) 55 (J (n : Nat)) (J (q : Nat)) (J s) (J tt) w1 = _
              unfold bX12_mendFrom_76
              simp (disch := first | (simp only [SH_sIi, SH_sLi]; assumption) | assumption | (simp only [nN_sI, nN_sL, nN_sR]; assumption) | omega) only [↓s_nm, ↓s_bnd2, ↓s_some, ↓s_suml, ↓s_sumr, ↓s_nz, ↓gi_q, ↓pi_q, ↓ck_q, ↓gi_gs, ↓gr_gs, ↓g_55_10, ↓g_55_11, ↓g_55_12, ↓g_55_13, ↓g_55_14, ↓g_55_15, ↓g_55_24, ↓g_55_28, ↓g_55_29, ↓g_55_30, ↓g_55_31, ↓g_55_32, ↓g_55_33, ↓g_55_34, ↓g_55_35, ↓g_55_36, ↓g_55_37, ↓g_55_38, ↓g_55_39, ↓g_55_40, ↓g_55_41, ↓g_55_42, ↓g_55_43, ↓g_55_44, ↓g_55_47, ↓g_55_48, ↓g_55_49, ↓g_55_50, ↓g_55_51, ↓g_55_52, ↓g_55_53, ↓g_55_54, ↓al_56, ↓al_57, ↓al_58, ↓al_59, ↓al_61, ↓al_62, ↓al_63, ↓al_64, ↓al_65, ↓al_66, ↓al_67, ↓al_68, ↓al_69, ↓al_70, ↓al_71, ↓al_72, ↓al_73, ↓al_74, ↓al_75, ↓al_76, ↓al_77, ↓al_78, ↓al_79, ↓al_80, ↓al_81, ↓al_82, ↓al_83, ↓al_84, ↓al_85, ↓al_86, ↓al_87, ↓as_56, ↓as_57, ↓as_58, ↓as_59, ↓as_61, ↓as_62, ↓as_63, ↓as_64, ↓as_65, ↓as_66, ↓as_67, ↓as_68, ↓as_69, ↓as_70, ↓as_71, ↓as_72, ↓as_73, ↓as_74, ↓as_75, ↓as_76, ↓as_77, ↓as_78, ↓as_79, ↓as_80, ↓as_81, ↓as_82, ↓as_83, ↓as_84, ↓as_85, ↓as_86, ↓as_87, ↓gi_55, ↓pi_55, ↓ck_55, ↓gi_60, ↓pi_60, ↓ck_60, j0, j1, j2, j3, j4, j5, j6, j7, j8, j9, j10, j11, j12, j13, j14, j15, j16, j17, j18, j19, j20, j21, j24, j25, j30, j31, j32, j36, j41, j48, j49, j57, j59, j60, j63, j64, j81, j97, j99, j100, j122, j255, j300, j400, j500, j999, j1000, j24000, j_add, j_sub, j_mul, j_neg, j_lt, j_le, j_eq, nI_sI, nR_sI, nN_sI, nI_sR, nR_sR, nN_sR, Int.toNat_natCast, true_and, and_true, false_and, and_false, if_true, if_false, reduceIte, Nat.reduceEqDiff, Option.some.injEq, Prod.mk.injEq, k_of, k_add, k_sub, k_mul, k_neg, lg_ltJ, lg_gtJ, lg_eqJ, b_0, b_J0, b_J1, b_retZ, k0, k1, k2, k3, k10, k19, k20, k30, k40, k999, ↓in_b, ↓dayM_b, ↓gsrM_b, ↓isqM_b, Int.add_sub_cancel, not_true, not_false_eq_true, jn1, Bool.false_eq_true, Bool.true_eq_false, reduceCtorEq, show (tt : Int) < 11 by omega]
              rw [← ew2, mayM hC hD hX2 hn hqN hb hf2 hT2]
              simp (disch := first | (simp only [SH_sIi, SH_sLi]; assumption) | assumption | (simp only [nN_sI, nN_sL, nN_sR]; assumption) | omega) only [↓s_nm, ↓s_bnd2, ↓s_some, ↓s_suml, ↓s_sumr, ↓s_nz, ↓gi_q, ↓pi_q, ↓ck_q, ↓gi_gs, ↓gr_gs, ↓g_55_10, ↓g_55_11, ↓g_55_12, ↓g_55_13, ↓g_55_14, ↓g_55_15, ↓g_55_24, ↓g_55_28, ↓g_55_29, ↓g_55_30, ↓g_55_31, ↓g_55_32, ↓g_55_33, ↓g_55_34, ↓g_55_35, ↓g_55_36, ↓g_55_37, ↓g_55_38, ↓g_55_39, ↓g_55_40, ↓g_55_41, ↓g_55_42, ↓g_55_43, ↓g_55_44, ↓g_55_47, ↓g_55_48, ↓g_55_49, ↓g_55_50, ↓g_55_51, ↓g_55_52, ↓g_55_53, ↓g_55_54, ↓al_56, ↓al_57, ↓al_58, ↓al_59, ↓al_61, ↓al_62, ↓al_63, ↓al_64, ↓al_65, ↓al_66, ↓al_67, ↓al_68, ↓al_69, ↓al_70, ↓al_71, ↓al_72, ↓al_73, ↓al_74, ↓al_75, ↓al_76, ↓al_77, ↓al_78, ↓al_79, ↓al_80, ↓al_81, ↓al_82, ↓al_83, ↓al_84, ↓al_85, ↓al_86, ↓al_87, ↓as_56, ↓as_57, ↓as_58, ↓as_59, ↓as_61, ↓as_62, ↓as_63, ↓as_64, ↓as_65, ↓as_66, ↓as_67, ↓as_68, ↓as_69, ↓as_70, ↓as_71, ↓as_72, ↓as_73, ↓as_74, ↓as_75, ↓as_76, ↓as_77, ↓as_78, ↓as_79, ↓as_80, ↓as_81, ↓as_82, ↓as_83, ↓as_84, ↓as_85, ↓as_86, ↓as_87, ↓gi_55, ↓pi_55, ↓ck_55, ↓gi_60, ↓pi_60, ↓ck_60, j0, j1, j2, j3, j4, j5, j6, j7, j8, j9, j10, j11, j12, j13, j14, j15, j16, j17, j18, j19, j20, j21, j24, j25, j30, j31, j32, j36, j41, j48, j49, j57, j59, j60, j63, j64, j81, j97, j99, j100, j122, j255, j300, j400, j500, j999, j1000, j24000, j_add, j_sub, j_mul, j_neg, j_lt, j_le, j_eq, nI_sI, nR_sI, nN_sI, nI_sR, nR_sR, nN_sR, Int.toNat_natCast, true_and, and_true, false_and, and_false, if_true, if_false, reduceIte, Nat.reduceEqDiff, Option.some.injEq, Prod.mk.injEq, k_of, k_add, k_sub, k_mul, k_neg, lg_ltJ, lg_gtJ, lg_eqJ, b_0, b_J0, b_J1, b_retZ, k0, k1, k2, k3, k10, k19, k20, k30, k40, k999, ↓in_b, ↓dayM_b, ↓gsrM_b, ↓isqM_b, Int.add_sub_cancel, not_true, not_false_eq_true, jn1, Bool.false_eq_true, Bool.true_eq_false, reduceCtorEq, hbd]
            · show RepE n (nQ C) (fo st (lvT D n (nQ C) h k f s (tt + 1))) w2
              rw [lvT_s, fo_app]
              unfold brn
              rw [hqq2, if_pos (by simpa using hbd)]
              exact hB2
        · rintro ⟨r, w1⟩ ⟨i1, i2, i3, i4⟩
          simp only at i1 i2 i3 i4
          subst i1
          exact ⟨w1, rfl, i2, i3, i4⟩
      · have hb0 : bt n (nQ C - (k + 1)) = 0 := by have := bt_le n (nQ C - (k + 1)); omega
        rw [lvs_0 hb]
        obtain ⟨v', y1, y2, y3, y4⟩ := ih F f s st v (by omega) (by omega) hX0 (fun x hx hbx => hT x (by
          by_cases hxq : x = nQ C - (k + 1)
          · rw [hxq] at hbx; exact absurd hbx hb
          · omega) hbx) (fun x hx hbx => hf x (by
          by_cases hxq : x = nQ C - (k + 1)
          · rw [hxq] at hbx; exact absurd hbx hb
          · omega) hbx) hB0 hs1 (by omega)
        refine ⟨v', ?_, y2, fun x hx hbx => y3 x (by omega) hbx, y4⟩
        show gX12_mendFrom (fX12_mendFrom F) 55 _ _ _ v = _
        unfold gX12_mendFrom
        simp (disch := first | (simp only [SH_sIi, SH_sLi]; assumption) | assumption | (simp only [nN_sI, nN_sL, nN_sR]; assumption) | omega) only [↓s_nm, ↓s_bnd2, ↓s_some, ↓s_suml, ↓s_sumr, ↓s_nz, ↓gi_q, ↓pi_q, ↓ck_q, ↓gi_gs, ↓gr_gs, ↓g_55_10, ↓g_55_11, ↓g_55_12, ↓g_55_13, ↓g_55_14, ↓g_55_15, ↓g_55_24, ↓g_55_28, ↓g_55_29, ↓g_55_30, ↓g_55_31, ↓g_55_32, ↓g_55_33, ↓g_55_34, ↓g_55_35, ↓g_55_36, ↓g_55_37, ↓g_55_38, ↓g_55_39, ↓g_55_40, ↓g_55_41, ↓g_55_42, ↓g_55_43, ↓g_55_44, ↓g_55_47, ↓g_55_48, ↓g_55_49, ↓g_55_50, ↓g_55_51, ↓g_55_52, ↓g_55_53, ↓g_55_54, ↓al_56, ↓al_57, ↓al_58, ↓al_59, ↓al_61, ↓al_62, ↓al_63, ↓al_64, ↓al_65, ↓al_66, ↓al_67, ↓al_68, ↓al_69, ↓al_70, ↓al_71, ↓al_72, ↓al_73, ↓al_74, ↓al_75, ↓al_76, ↓al_77, ↓al_78, ↓al_79, ↓al_80, ↓al_81, ↓al_82, ↓al_83, ↓al_84, ↓al_85, ↓al_86, ↓al_87, ↓as_56, ↓as_57, ↓as_58, ↓as_59, ↓as_61, ↓as_62, ↓as_63, ↓as_64, ↓as_65, ↓as_66, ↓as_67, ↓as_68, ↓as_69, ↓as_70, ↓as_71, ↓as_72, ↓as_73, ↓as_74, ↓as_75, ↓as_76, ↓as_77, ↓as_78, ↓as_79, ↓as_80, ↓as_81, ↓as_82, ↓as_83, ↓as_84, ↓as_85, ↓as_86, ↓as_87, ↓gi_55, ↓pi_55, ↓ck_55, ↓gi_60, ↓pi_60, ↓ck_60, j0, j1, j2, j3, j4, j5, j6, j7, j8, j9, j10, j11, j12, j13, j14, j15, j16, j17, j18, j19, j20, j21, j24, j25, j30, j31, j32, j36, j41, j48, j49, j57, j59, j60, j63, j64, j81, j97, j99, j100, j122, j255, j300, j400, j500, j999, j1000, j24000, j_add, j_sub, j_mul, j_neg, j_lt, j_le, j_eq, nI_sI, nR_sI, nN_sI, nI_sR, nR_sR, nN_sR, Int.toNat_natCast, true_and, and_true, false_and, and_false, if_true, if_false, reduceIte, Nat.reduceEqDiff, Option.some.injEq, Prod.mk.injEq, k_of, k_add, k_sub, k_mul, k_neg, lg_ltJ, lg_gtJ, lg_eqJ, b_0, b_J0, b_J1, b_retZ, k0, k1, k2, k3, k10, k19, k20, k30, k40, k999, ↓in_b, ↓dayM_b, ↓gsrM_b, ↓isqM_b, Int.add_sub_cancel, not_true, not_false_eq_true, jn1, Bool.false_eq_true, Bool.true_eq_false, reduceCtorEq, m_55_0 hM, m_55_1 hM, m_55_2 hM, m_55_3 hM, m_55_4 hM, m_55_25 hM, m_55_26 hM, m_55_16 hM, m_55_22 hM, m_55_23 hM, m_55_27 hM, m_56 hM, m_57 hM, m_63 hM, m_64 hM, m_65 hM, m_66 hM, m_67 hM, m_68 hM, m_69 hM, m_70 hM, m_61 hM, m_71 hM, m_72 hM, m_73 hM, m_84 hM, b1, w, show ¬ (((nQ C - (k + 1) : Nat) : Int) = C 55 25) by omega, bit0 n (nQ C - (k + 1)) hn (by omega) hb0]
        rw [show ((nQ C - (k + 1) : Nat) : Int) + 1 = ((nQ C - k : Nat) : Int) by omega, y1]
        rfl
    · refine ⟨v, ?_, Fr.rfl, hT, ?_⟩
      · show gX12_mendFrom (fX12_mendFrom F) 55 _ _ _ v = _
        unfold gX12_mendFrom
        simp (disch := first | (simp only [SH_sIi, SH_sLi]; assumption) | assumption | (simp only [nN_sI, nN_sL, nN_sR]; assumption) | omega) only [↓s_nm, ↓s_bnd2, ↓s_some, ↓s_suml, ↓s_sumr, ↓s_nz, ↓gi_q, ↓pi_q, ↓ck_q, ↓gi_gs, ↓gr_gs, ↓g_55_10, ↓g_55_11, ↓g_55_12, ↓g_55_13, ↓g_55_14, ↓g_55_15, ↓g_55_24, ↓g_55_28, ↓g_55_29, ↓g_55_30, ↓g_55_31, ↓g_55_32, ↓g_55_33, ↓g_55_34, ↓g_55_35, ↓g_55_36, ↓g_55_37, ↓g_55_38, ↓g_55_39, ↓g_55_40, ↓g_55_41, ↓g_55_42, ↓g_55_43, ↓g_55_44, ↓g_55_47, ↓g_55_48, ↓g_55_49, ↓g_55_50, ↓g_55_51, ↓g_55_52, ↓g_55_53, ↓g_55_54, ↓al_56, ↓al_57, ↓al_58, ↓al_59, ↓al_61, ↓al_62, ↓al_63, ↓al_64, ↓al_65, ↓al_66, ↓al_67, ↓al_68, ↓al_69, ↓al_70, ↓al_71, ↓al_72, ↓al_73, ↓al_74, ↓al_75, ↓al_76, ↓al_77, ↓al_78, ↓al_79, ↓al_80, ↓al_81, ↓al_82, ↓al_83, ↓al_84, ↓al_85, ↓al_86, ↓al_87, ↓as_56, ↓as_57, ↓as_58, ↓as_59, ↓as_61, ↓as_62, ↓as_63, ↓as_64, ↓as_65, ↓as_66, ↓as_67, ↓as_68, ↓as_69, ↓as_70, ↓as_71, ↓as_72, ↓as_73, ↓as_74, ↓as_75, ↓as_76, ↓as_77, ↓as_78, ↓as_79, ↓as_80, ↓as_81, ↓as_82, ↓as_83, ↓as_84, ↓as_85, ↓as_86, ↓as_87, ↓gi_55, ↓pi_55, ↓ck_55, ↓gi_60, ↓pi_60, ↓ck_60, j0, j1, j2, j3, j4, j5, j6, j7, j8, j9, j10, j11, j12, j13, j14, j15, j16, j17, j18, j19, j20, j21, j24, j25, j30, j31, j32, j36, j41, j48, j49, j57, j59, j60, j63, j64, j81, j97, j99, j100, j122, j255, j300, j400, j500, j999, j1000, j24000, j_add, j_sub, j_mul, j_neg, j_lt, j_le, j_eq, nI_sI, nR_sI, nN_sI, nI_sR, nR_sR, nN_sR, Int.toNat_natCast, true_and, and_true, false_and, and_false, if_true, if_false, reduceIte, Nat.reduceEqDiff, Option.some.injEq, Prod.mk.injEq, k_of, k_add, k_sub, k_mul, k_neg, lg_ltJ, lg_gtJ, lg_eqJ, b_0, b_J0, b_J1, b_retZ, k0, k1, k2, k3, k10, k19, k20, k30, k40, k999, ↓in_b, ↓dayM_b, ↓gsrM_b, ↓isqM_b, Int.add_sub_cancel, not_true, not_false_eq_true, jn1, Bool.false_eq_true, Bool.true_eq_false, reduceCtorEq, b1, w]
      · rw [fo_ge _ _ fun x hx => by have := lvs_ge _ _ _ x hx; omega]
        exact hB0
end MENDM
