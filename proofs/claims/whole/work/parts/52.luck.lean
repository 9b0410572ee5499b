/-! luck: sums; counts of heads -/
def bin : Nat → Nat → Nat
  | _, 0 => 1
  | 0, _ + 1 => 0
  | n + 1, k + 1 => bin n k + bin n (k + 1)
theorem bin_0 (n : Nat) : bin n 0 = 1 := by cases n <;> rfl
theorem bin_s (n k : Nat) : bin (n + 1) (k + 1) = bin n k + bin n (k + 1) := rfl
theorem bin_z : ∀ n k : Nat, n < k → bin n k = 0 := by
  intro n
  induction n with
  | zero =>
    intro k h
    obtain ⟨j, rfl⟩ : ∃ j, k = j + 1 := ⟨k - 1, by omega⟩
    rfl
  | succ n ih =>
    intro k h
    obtain ⟨j, rfl⟩ : ∃ j, k = j + 1 := ⟨k - 1, by omega⟩
    rw [bin_s, ih j (by omega), ih (j + 1) (by omega)]
theorem bin_mul : ∀ n k : Nat, k ≤ n → bin n (k + 1) * (k + 1) = bin n k * (n - k) := by
  intro n
  induction n with
  | zero =>
    intro k h
    obtain rfl : k = 0 := by omega
    rfl
  | succ n ih =>
    intro k h
    have h1 : bin (n + 1) (k + 1) * (k + 1) = bin n k * (n + 1) := by
      rw [bin_s, Nat.add_mul]
      by_cases hk : k ≤ n
      · rw [ih k hk, ← Nat.mul_add, show k + 1 + (n - k) = n + 1 by omega]
      · rw [bin_z n k (by omega), bin_z n (k + 1) (by omega)]; simp
    rw [h1]
    cases k with
    | zero => rw [bin_0, bin_0]; rfl
    | succ j =>
      rw [bin_s, Nat.add_mul, show n + 1 - (j + 1) = n - j by omega]
      have := ih j (by omega)
      rw [← this, ← Nat.mul_add, show j + 1 + (n - j) = n + 1 by omega]
theorem bin_le : ∀ n k : Nat, bin n k ≤ 2 ^ n := by
  intro n
  induction n with
  | zero => intro k; cases k with
    | zero => exact Nat.le_refl _
    | succ k => exact Nat.zero_le _
  | succ n ih =>
    intro k
    cases k with
    | zero => rw [bin_0]; exact Nat.one_le_two_pow
    | succ k =>
      have h1 := ih k
      have h2 := ih (k + 1)
      rw [bin_s, Nat.pow_succ]
      omega
theorem bin_20 {n : Nat} (h : n ≤ 20) (k : Nat) : bin n k ≤ 1048576 := by
  have h1 : 2 ^ n ≤ 2 ^ 20 := Nat.pow_le_pow_right (by decide) h
  exact Nat.le_trans (bin_le n k) h1
/-- heads from b on below i -/
def hds (n b : Nat) (i : Nat) : Int := sumN (fun k => if b ≤ k then (bin n k : Int) else 0) i
theorem hds_s (n b i : Nat) : hds n b (i + 1) = hds n b i + if b ≤ i then (bin n i : Int) else 0 := rfl
section HEADS
variable {C D : Sp} {u u' : Mem} {β : Type} {n b : Nat}
theorem rwhC (hn : n ≤ 20) (hb : b ≤ n) : fX2_rowsWithHeads (J n) (J b) u = some (K (hds n b (n + 1))) := by
  have e : lp (fun s : Int64 × Int64 × Int32 => bX2_rowsWithHeads_8 (J n) (J b) u s.1 s.2.1 s.2.2) FU ((1 : Int64), (0 : Int64), (0 : Int32)) = some (K (hds n b (n + 1))) := by
    have h := lp_for (f := fun s : Int64 × Int64 × Int32 => bX2_rowsWithHeads_8 (J n) (J b) u s.1 s.2.1 s.2.2) (fun i => (K (bin n i : Nat), K (hds n b i), J (i : Nat))) (n + 1) FU (K (hds n b (n + 1))) (FU_gt (by omega)) (fun i hi => ?_) ?_
    · have e0 : ((K (bin n 0 : Nat), K (hds n b 0), J (0 : Nat)) : Int64 × Int64 × Int32) = ((1 : Int64), (0 : Int64), (0 : Int32)) := by rw [bin_0]; rfl
      rw [← e0]
      exact h
    · have hm := bin_mul n i (by omega)
      have h1 := bin_20 hn i
      have hq : (bin n i : Int) * ((n : Int) - (i : Int)) / ((i : Int) + 1) = (bin n (i + 1) : Nat) := by
        have e1 : (bin n i : Int) * ((n : Int) - (i : Int)) = (bin n (i + 1) : Int) * ((i : Int) + 1) := by
          have := congrArg (fun x : Nat => (x : Int)) hm
          simp only [Int.natCast_mul] at this
          rw [show ((n - i : Nat) : Int) = (n : Int) - (i : Int) by omega, show ((i + 1 : Nat) : Int) = (i : Int) + 1 by omega] at this
          exact this.symm
        rw [e1]
        exact Int.mul_ediv_cancel _ (by omega)
      have hr0 : 0 ≤ (bin n i : Int) * ((n : Int) - (i : Int)) := Int.mul_nonneg (by omega) (by omega)
      have hr1 : (bin n i : Int) * ((n : Int) - (i : Int)) ≤ 1048576 * 20 := Int.mul_le_mul (by omega) (by omega) (by omega) (by omega)
      show bX2_rowsWithHeads_8 (J n) (J b) u (K (bin n i : Nat)) (K (hds n b i)) (J i) = _
      unfold bX2_rowsWithHeads_8 jX2_rowsWithHeads_8_26
      rw [hds_s]
      by_cases w : b ≤ i
      · simp (disch := first | (simp only [SH_sIi, SH_sLi]; assumption) | assumption | (simp only [nN_sI, nN_sL, nN_sR]; assumption) | omega) only [↓s_nm, ↓s_bnd2, ↓s_some, ↓s_suml, ↓s_sumr, ↓s_nz, ↓gi_q, ↓pi_q, ↓ck_q, ↓gi_gs, ↓gr_gs, ↓g_0_0, ↓g_0_1, ↓g_0_2, ↓g_0_3, ↓g_0_4, ↓g_0_5, ↓g_0_6, ↓g_0_7, ↓g_1_0, ↓g_3_0, ↓g_3_3, ↓g_4_0, ↓g_4_1, ↓g_7_0, ↓g_7_1, ↓g_10_0, ↓g_10_1, ↓g_10_2, ↓g_34_0, ↓g_34_1, ↓g_34_2, ↓g_34_3, ↓g_34_4, ↓g_34_5, ↓g_39_2, ↓g_39_3, ↓g_39_4, ↓g_39_5, ↓g_39_6, ↓g_39_7, ↓g_39_8, ↓g_39_9, ↓g_45_0, ↓g_45_1, ↓g_45_2, ↓g_45_4, ↓g_49_0, ↓g_49_1, ↓g_49_2, ↓g_49_3, ↓g_49_4, ↓g_49_5, ↓g_49_6, ↓al_2, ↓al_5, ↓al_6, ↓al_8, ↓al_9, ↓al_11, ↓al_12, ↓al_13, ↓al_35, ↓al_36, ↓al_37, ↓al_38, ↓al_40, ↓al_41, ↓al_42, ↓al_43, ↓al_44, ↓al_46, ↓al_47, ↓al_48, ↓al_50, ↓al_51, ↓al_52, ↓al_53, ↓al_54, ↓as_2, ↓as_5, ↓as_6, ↓as_8, ↓as_9, ↓as_12, ↓as_13, ↓as_35, ↓as_36, ↓as_37, ↓as_38, ↓as_40, ↓as_41, ↓as_42, ↓as_43, ↓as_44, ↓as_46, ↓as_47, ↓as_48, ↓as_50, ↓as_51, ↓as_52, ↓as_53, ↓as_54, ↓gi_0, ↓pi_0, ↓ck_0, ↓gi_1, ↓pi_1, ↓ck_1, ↓gi_3, ↓pi_3, ↓ck_3, ↓gi_4, ↓pi_4, ↓ck_4, ↓gi_7, ↓pi_7, ↓ck_7, ↓gi_10, ↓pi_10, ↓ck_10, ↓gi_34, ↓pi_34, ↓ck_34, ↓gi_39, ↓pi_39, ↓ck_39, ↓gi_45, ↓pi_45, ↓ck_45, ↓gi_49, ↓pi_49, ↓ck_49, j0, j1, j2, j3, j4, j5, j6, j7, j8, j9, j10, j11, j12, j13, j14, j15, j16, j17, j18, j19, j20, j21, j24, j25, j30, j31, j32, j36, j41, j48, j49, j57, j59, j60, j63, j64, j81, j97, j99, j100, j122, j255, j300, j400, j500, j999, j1000, j24000, j_add, j_sub, j_mul, j_neg, j_lt, j_le, j_eq, nI_sI, nR_sI, nN_sI, nI_sR, nR_sR, nN_sR, Int.toNat_natCast, true_and, and_true, false_and, and_false, if_true, if_false, reduceIte, Nat.reduceEqDiff, Option.some.injEq, Prod.mk.injEq, k_of, k_add, k_sub, k_mul, k_neg, lg_ltJ, lg_gtJ, lg_eqJ, b_0, b_J0, b_J1, b_retZ, k0, k1, k2, k3, k10, k19, k20, k30, k40, k999, ↓dayC_b, ↓gsrC_b, ↓tenC_b, ↓zooC_b, ↓isqC_b, Int.add_sub_cancel, not_true, not_false_eq_true, jn1, Bool.false_eq_true, Bool.true_eq_false, reduceCtorEq, show ¬ ((n : Int) < (i : Int)) by omega, show ¬ ((i : Int) < (b : Int)) by omega, w, ↓s_nz64, k_div, hq]
      · simp (disch := first | (simp only [SH_sIi, SH_sLi]; assumption) | assumption | (simp only [nN_sI, nN_sL, nN_sR]; assumption) | omega) only [↓s_nm, ↓s_bnd2, ↓s_some, ↓s_suml, ↓s_sumr, ↓s_nz, ↓gi_q, ↓pi_q, ↓ck_q, ↓gi_gs, ↓gr_gs, ↓g_0_0, ↓g_0_1, ↓g_0_2, ↓g_0_3, ↓g_0_4, ↓g_0_5, ↓g_0_6, ↓g_0_7, ↓g_1_0, ↓g_3_0, ↓g_3_3, ↓g_4_0, ↓g_4_1, ↓g_7_0, ↓g_7_1, ↓g_10_0, ↓g_10_1, ↓g_10_2, ↓g_34_0, ↓g_34_1, ↓g_34_2, ↓g_34_3, ↓g_34_4, ↓g_34_5, ↓g_39_2, ↓g_39_3, ↓g_39_4, ↓g_39_5, ↓g_39_6, ↓g_39_7, ↓g_39_8, ↓g_39_9, ↓g_45_0, ↓g_45_1, ↓g_45_2, ↓g_45_4, ↓g_49_0, ↓g_49_1, ↓g_49_2, ↓g_49_3, ↓g_49_4, ↓g_49_5, ↓g_49_6, ↓al_2, ↓al_5, ↓al_6, ↓al_8, ↓al_9, ↓al_11, ↓al_12, ↓al_13, ↓al_35, ↓al_36, ↓al_37, ↓al_38, ↓al_40, ↓al_41, ↓al_42, ↓al_43, ↓al_44, ↓al_46, ↓al_47, ↓al_48, ↓al_50, ↓al_51, ↓al_52, ↓al_53, ↓al_54, ↓as_2, ↓as_5, ↓as_6, ↓as_8, ↓as_9, ↓as_12, ↓as_13, ↓as_35, ↓as_36, ↓as_37, ↓as_38, ↓as_40, ↓as_41, ↓as_42, ↓as_43, ↓as_44, ↓as_46, ↓as_47, ↓as_48, ↓as_50, ↓as_51, ↓as_52, ↓as_53, ↓as_54, ↓gi_0, ↓pi_0, ↓ck_0, ↓gi_1, ↓pi_1, ↓ck_1, ↓gi_3, ↓pi_3, ↓ck_3, ↓gi_4, ↓pi_4, ↓ck_4, ↓gi_7, ↓pi_7, ↓ck_7, ↓gi_10, ↓pi_10, ↓ck_10, ↓gi_34, ↓pi_34, ↓ck_34, ↓gi_39, ↓pi_39, ↓ck_39, ↓gi_45, ↓pi_45, ↓ck_45, ↓gi_49, ↓pi_49, ↓ck_49, j0, j1, j2, j3, j4, j5, j6, j7, j8, j9, j10, j11, j12, j13, j14, j15, j16, j17, j18, j19, j20, j21, j24, j25, j30, j31, j32, j36, j41, j48, j49, j57, j59, j60, j63, j64, j81, j97, j99, j100, j122, j255, j300, j400, j500, j999, j1000, j24000, j_add, j_sub, j_mul, j_neg, j_lt, j_le, j_eq, nI_sI, nR_sI, nN_sI, nI_sR, nR_sR, nN_sR, Int.toNat_natCast, true_and, and_true, false_and, and_false, if_true, if_false, reduceIte, Nat.reduceEqDiff, Option.some.injEq, Prod.mk.injEq, k_of, k_add, k_sub, k_mul, k_neg, lg_ltJ, lg_gtJ, lg_eqJ, b_0, b_J0, b_J1, b_retZ, k0, k1, k2, k3, k10, k19, k20, k30, k40, k999, ↓dayC_b, ↓gsrC_b, ↓tenC_b, ↓zooC_b, ↓isqC_b, Int.add_sub_cancel, not_true, not_false_eq_true, jn1, Bool.false_eq_true, Bool.true_eq_false, reduceCtorEq, show ¬ ((n : Int) < (i : Int)) by omega, show ((i : Int) < (b : Int)) by omega, w, ↓s_nz64, k_div, hq, Int.add_zero]
    · show bX2_rowsWithHeads_8 (J n) (J b) u (K (bin n (n + 1) : Nat)) (K (hds n b (n + 1))) (J (n + 1 : Nat)) = _
      unfold bX2_rowsWithHeads_8
      rw [if_pos]
      rw [j_lt _ _ (by omega) (by omega) (by omega) (by omega)]
      omega
  unfold fX2_rowsWithHeads
  rw [e]
  rfl
/-- the reference's triangle -/
def TriOK (n i : Nat) (u : Mem) : Prop := ∀ k, k ≤ n → mL u 83 k = K (bin i k : Nat)
theorem mL_at (u : Mem) (k : Nat) (v : Int64) (j : Nat) : mL (sL u 83 k v) 83 j = if j = k then v else mL u 83 j := by
  rw [mL_sL]
  by_cases h : j = k
  · rw [if_pos ⟨rfl, h⟩, if_pos h]
  · rw [if_neg fun x => h x.2, if_neg h]
theorem tri1 (hS : SH u) (hn : n ≤ 20) (b : Int32) : ∃ v, lp (fun s : Int32 × Mem => bX12_atLeast_2 55 (J n) b s.1 s.2) FU ((0 : Int32), u) = some v ∧ Fr (fun _ _ => False) u v ∧ TriOK n 0 v := by
  refine lp_inv (f := fun s : Int32 × Mem => bX12_atLeast_2 55 (J n) b s.1 s.2) (E := fun v => Fr (fun _ _ => False) u v ∧ TriOK n 0 v)
    (fun m s => s.1 = J (m : Nat) ∧ Fr (fun _ _ => False) u s.2 ∧ ∀ k, k < m → mL s.2 83 k = K (bin 0 k : Nat)) (n + 1) ⟨rfl, Fr.rfl, fun k hk => by omega⟩ ?_ ?_ (FU_gt (by omega))
  · rintro m ⟨s, v⟩ hm ⟨e1, e2, e3⟩
    simp only at e1 e2 e3
    subst e1
    have sv := e2.SH hS
    refine ⟨(J (m + 1 : Nat), sL v 83 m (K (bin 0 m : Nat))), ?_, rfl, e2.sL, fun k hk => ?_⟩
    · show bX12_atLeast_2 55 (J n) b (J m) v = _
      unfold bX12_atLeast_2
      by_cases h0 : m = 0
      · subst h0
        simp (disch := first | (simp only [SH_sIi, SH_sLi]; assumption) | assumption | (simp only [nN_sI, nN_sL, nN_sR]; assumption) | omega) only [↓s_nm, ↓s_bnd2, ↓s_some, ↓s_suml, ↓s_sumr, ↓s_nz, ↓gi_q, ↓pi_q, ↓ck_q, ↓gi_gs, ↓gr_gs, ↓g_55_10, ↓g_55_11, ↓g_55_12, ↓g_55_13, ↓g_55_14, ↓g_55_15, ↓g_55_24, ↓g_55_28, ↓g_55_29, ↓g_55_30, ↓g_55_31, ↓g_55_32, ↓g_55_33, ↓g_55_34, ↓g_55_35, ↓g_55_36, ↓g_55_37, ↓g_55_38, ↓g_55_39, ↓g_55_40, ↓g_55_41, ↓g_55_42, ↓g_55_43, ↓g_55_44, ↓g_55_47, ↓g_55_48, ↓g_55_49, ↓g_55_50, ↓g_55_51, ↓g_55_52, ↓g_55_53, ↓g_55_54, ↓al_56, ↓al_57, ↓al_58, ↓al_59, ↓al_61, ↓al_62, ↓al_63, ↓al_64, ↓al_65, ↓al_66, ↓al_67, ↓al_68, ↓al_69, ↓al_70, ↓al_71, ↓al_72, ↓al_73, ↓al_74, ↓al_75, ↓al_76, ↓al_77, ↓al_78, ↓al_79, ↓al_80, ↓al_81, ↓al_82, ↓al_83, ↓al_84, ↓al_85, ↓al_86, ↓al_87, ↓as_56, ↓as_57, ↓as_58, ↓as_59, ↓as_61, ↓as_62, ↓as_63, ↓as_64, ↓as_65, ↓as_66, ↓as_67, ↓as_68, ↓as_69, ↓as_70, ↓as_71, ↓as_72, ↓as_73, ↓as_74, ↓as_75, ↓as_76, ↓as_77, ↓as_78, ↓as_79, ↓as_80, ↓as_81, ↓as_82, ↓as_83, ↓as_84, ↓as_85, ↓as_86, ↓as_87, ↓gi_55, ↓pi_55, ↓ck_55, ↓gi_60, ↓pi_60, ↓ck_60, j0, j1, j2, j3, j4, j5, j6, j7, j8, j9, j10, j11, j12, j13, j14, j15, j16, j17, j18, j19, j20, j21, j24, j25, j30, j31, j32, j36, j41, j48, j49, j57, j59, j60, j63, j64, j81, j97, j99, j100, j122, j255, j300, j400, j500, j999, j1000, j24000, j_add, j_sub, j_mul, j_neg, j_lt, j_le, j_eq, nI_sI, nR_sI, nN_sI, nI_sR, nR_sR, nN_sR, Int.toNat_natCast, true_and, and_true, false_and, and_false, if_true, if_false, reduceIte, Nat.reduceEqDiff, Option.some.injEq, Prod.mk.injEq, k_of, k_add, k_sub, k_mul, k_neg, lg_ltJ, lg_gtJ, lg_eqJ, b_0, b_J0, b_J1, b_retZ, k0, k1, k2, k3, k10, k19, k20, k30, k40, k999, ↓in_b, ↓dayM_b, ↓gsrM_b, ↓isqM_b, Int.add_sub_cancel, not_true, not_false_eq_true, jn1, Bool.false_eq_true, Bool.true_eq_false, reduceCtorEq, show ¬ ((n : Int) < ((0 : Nat) : Int)) by omega, show (((0 : Nat) : Int) = 0) by omega]
        rfl
      · obtain ⟨j, rfl⟩ : ∃ j, m = j + 1 := ⟨m - 1, by omega⟩
        simp (disch := first | (simp only [SH_sIi, SH_sLi]; assumption) | assumption | (simp only [nN_sI, nN_sL, nN_sR]; assumption) | omega) only [↓s_nm, ↓s_bnd2, ↓s_some, ↓s_suml, ↓s_sumr, ↓s_nz, ↓gi_q, ↓pi_q, ↓ck_q, ↓gi_gs, ↓gr_gs, ↓g_55_10, ↓g_55_11, ↓g_55_12, ↓g_55_13, ↓g_55_14, ↓g_55_15, ↓g_55_24, ↓g_55_28, ↓g_55_29, ↓g_55_30, ↓g_55_31, ↓g_55_32, ↓g_55_33, ↓g_55_34, ↓g_55_35, ↓g_55_36, ↓g_55_37, ↓g_55_38, ↓g_55_39, ↓g_55_40, ↓g_55_41, ↓g_55_42, ↓g_55_43, ↓g_55_44, ↓g_55_47, ↓g_55_48, ↓g_55_49, ↓g_55_50, ↓g_55_51, ↓g_55_52, ↓g_55_53, ↓g_55_54, ↓al_56, ↓al_57, ↓al_58, ↓al_59, ↓al_61, ↓al_62, ↓al_63, ↓al_64, ↓al_65, ↓al_66, ↓al_67, ↓al_68, ↓al_69, ↓al_70, ↓al_71, ↓al_72, ↓al_73, ↓al_74, ↓al_75, ↓al_76, ↓al_77, ↓al_78, ↓al_79, ↓al_80, ↓al_81, ↓al_82, ↓al_83, ↓al_84, ↓al_85, ↓al_86, ↓al_87, ↓as_56, ↓as_57, ↓as_58, ↓as_59, ↓as_61, ↓as_62, ↓as_63, ↓as_64, ↓as_65, ↓as_66, ↓as_67, ↓as_68, ↓as_69, ↓as_70, ↓as_71, ↓as_72, ↓as_73, ↓as_74, ↓as_75, ↓as_76, ↓as_77, ↓as_78, ↓as_79, ↓as_80, ↓as_81, ↓as_82, ↓as_83, ↓as_84, ↓as_85, ↓as_86, ↓as_87, ↓gi_55, ↓pi_55, ↓ck_55, ↓gi_60, ↓pi_60, ↓ck_60, j0, j1, j2, j3, j4, j5, j6, j7, j8, j9, j10, j11, j12, j13, j14, j15, j16, j17, j18, j19, j20, j21, j24, j25, j30, j31, j32, j36, j41, j48, j49, j57, j59, j60, j63, j64, j81, j97, j99, j100, j122, j255, j300, j400, j500, j999, j1000, j24000, j_add, j_sub, j_mul, j_neg, j_lt, j_le, j_eq, nI_sI, nR_sI, nN_sI, nI_sR, nR_sR, nN_sR, Int.toNat_natCast, true_and, and_true, false_and, and_false, if_true, if_false, reduceIte, Nat.reduceEqDiff, Option.some.injEq, Prod.mk.injEq, k_of, k_add, k_sub, k_mul, k_neg, lg_ltJ, lg_gtJ, lg_eqJ, b_0, b_J0, b_J1, b_retZ, k0, k1, k2, k3, k10, k19, k20, k30, k40, k999, ↓in_b, ↓dayM_b, ↓gsrM_b, ↓isqM_b, Int.add_sub_cancel, not_true, not_false_eq_true, jn1, Bool.false_eq_true, Bool.true_eq_false, reduceCtorEq, show ¬ ((n : Int) < ((j : Nat) : Int) + 1) by omega, show ¬ (((j : Nat) : Int) + 1 = 0) by omega, show (((j : Nat) : Int) + 1).toNat = j + 1 by omega]
        rfl
    · show mL (sL v 83 m _) 83 k = _
      rw [mL_at]
      by_cases h : k = m
      · rw [if_pos h, h]
      · rw [if_neg h]; exact e3 k (by omega)
  · rintro ⟨s, v⟩ ⟨e1, e2, e3⟩
    simp only at e1 e2 e3
    subst e1
    refine ⟨v, ?_, e2, fun k hk => e3 k (by omega)⟩
    show bX12_atLeast_2 55 (J n) b (J (n + 1 : Nat)) v = _
    unfold bX12_atLeast_2
    rw [if_pos]
    rw [j_lt _ _ (by omega) (by omega) (by omega) (by omega)]
    omega
theorem tri2in {i : Nat} (hS : SH u) (hn : n ≤ 20) (hT : TriOK n i u) (b z : Int32) : ∃ v, lp (fun s : Int32 × Mem => bX12_atLeast_38 55 (J n) b z s.1 s.2) FU (J n, u) = some v ∧ Fr (fun _ _ => False) u v ∧ TriOK n (i + 1) v := by
  refine lp_inv (f := fun s : Int32 × Mem => bX12_atLeast_38 55 (J n) b z s.1 s.2) (E := fun v => Fr (fun _ _ => False) u v ∧ TriOK n (i + 1) v)
    (fun m s => s.1 = J ((n - m : Nat) : Int) ∧ Fr (fun _ _ => False) u s.2 ∧ ∀ k, k ≤ n → mL s.2 83 k = K ((if n - m < k then bin (i + 1) k else bin i k : Nat) : Int)) n ⟨rfl, Fr.rfl, fun k hk => by rw [if_neg (by omega)]; exact hT k hk⟩ ?_ ?_ (FU_gt (by omega))
  · rintro m ⟨s, v⟩ hm ⟨e1, e2, e3⟩
    simp only at e1 e2 e3
    subst e1
    have sv := e2.SH hS
    obtain ⟨j, ej⟩ : ∃ j, n - m = j + 1 := ⟨n - m - 1, by omega⟩
    have t1 := e3 (j + 1) (by omega)
    have t2 := e3 j (by omega)
    rw [if_neg (by omega)] at t1 t2
    rw [ej] at e3
    refine ⟨(J (j : Nat), sL v 83 (j + 1) (K (bin (i + 1) (j + 1) : Nat))), ?_, by rw [show n - (m + 1) = j by omega], e2.sL, fun k hk => ?_⟩
    · show bX12_atLeast_38 55 (J n) b z (J ((n - m : Nat) : Int)) v = _
      rw [ej]
      unfold bX12_atLeast_38
      simp (disch := first | (simp only [SH_sIi, SH_sLi]; assumption) | assumption | (simp only [nN_sI, nN_sL, nN_sR]; assumption) | omega) only [↓s_nm, ↓s_bnd2, ↓s_some, ↓s_suml, ↓s_sumr, ↓s_nz, ↓gi_q, ↓pi_q, ↓ck_q, ↓gi_gs, ↓gr_gs, ↓g_55_10, ↓g_55_11, ↓g_55_12, ↓g_55_13, ↓g_55_14, ↓g_55_15, ↓g_55_24, ↓g_55_28, ↓g_55_29, ↓g_55_30, ↓g_55_31, ↓g_55_32, ↓g_55_33, ↓g_55_34, ↓g_55_35, ↓g_55_36, ↓g_55_37, ↓g_55_38, ↓g_55_39, ↓g_55_40, ↓g_55_41, ↓g_55_42, ↓g_55_43, ↓g_55_44, ↓g_55_47, ↓g_55_48, ↓g_55_49, ↓g_55_50, ↓g_55_51, ↓g_55_52, ↓g_55_53, ↓g_55_54, ↓al_56, ↓al_57, ↓al_58, ↓al_59, ↓al_61, ↓al_62, ↓al_63, ↓al_64, ↓al_65, ↓al_66, ↓al_67, ↓al_68, ↓al_69, ↓al_70, ↓al_71, ↓al_72, ↓al_73, ↓al_74, ↓al_75, ↓al_76, ↓al_77, ↓al_78, ↓al_79, ↓al_80, ↓al_81, ↓al_82, ↓al_83, ↓al_84, ↓al_85, ↓al_86, ↓al_87, ↓as_56, ↓as_57, ↓as_58, ↓as_59, ↓as_61, ↓as_62, ↓as_63, ↓as_64, ↓as_65, ↓as_66, ↓as_67, ↓as_68, ↓as_69, ↓as_70, ↓as_71, ↓as_72, ↓as_73, ↓as_74, ↓as_75, ↓as_76, ↓as_77, ↓as_78, ↓as_79, ↓as_80, ↓as_81, ↓as_82, ↓as_83, ↓as_84, ↓as_85, ↓as_86, ↓as_87, ↓gi_55, ↓pi_55, ↓ck_55, ↓gi_60, ↓pi_60, ↓ck_60, j0, j1, j2, j3, j4, j5, j6, j7, j8, j9, j10, j11, j12, j13, j14, j15, j16, j17, j18, j19, j20, j21, j24, j25, j30, j31, j32, j36, j41, j48, j49, j57, j59, j60, j63, j64, j81, j97, j99, j100, j122, j255, j300, j400, j500, j999, j1000, j24000, j_add, j_sub, j_mul, j_neg, j_lt, j_le, j_eq, nI_sI, nR_sI, nN_sI, nI_sR, nR_sR, nN_sR, Int.toNat_natCast, true_and, and_true, false_and, and_false, if_true, if_false, reduceIte, Nat.reduceEqDiff, Option.some.injEq, Prod.mk.injEq, k_of, k_add, k_sub, k_mul, k_neg, lg_ltJ, lg_gtJ, lg_eqJ, b_0, b_J0, b_J1, b_retZ, k0, k1, k2, k3, k10, k19, k20, k30, k40, k999, ↓in_b, ↓dayM_b, ↓gsrM_b, ↓isqM_b, Int.add_sub_cancel, not_true, not_false_eq_true, jn1, Bool.false_eq_true, Bool.true_eq_false, reduceCtorEq, show (0 : Int) < (j : Int) + 1 by omega, show ((j : Int) + 1).toNat = j + 1 by omega, t1, t2]
      rw [bin_s, show (j : Int) + 1 + -1 = (j : Int) by omega, Int.natCast_add, Int.add_comm]
    · show mL (sL v 83 (j + 1) _) 83 k = _
      rw [mL_at, show n - (m + 1) = j by omega]
      by_cases h : k = j + 1
      · rw [if_pos h, if_pos (by omega), h]
      · rw [if_neg h, e3 k hk]
        by_cases h2 : j + 1 < k
        · rw [if_pos h2, if_pos (by omega)]
        · rw [if_neg h2, if_neg (by omega)]
  · rintro ⟨s, v⟩ ⟨e1, e2, e3⟩
    simp only at e1 e2 e3
    subst e1
    refine ⟨v, ?_, e2, fun k hk => ?_⟩
    · show bX12_atLeast_38 55 (J n) b z (J ((n - n : Nat) : Int)) v = _
      rw [Nat.sub_self]
      rfl
    · rw [e3 k hk]
      by_cases h : n - n < k
      · rw [if_pos h]
      · rw [if_neg h]
        obtain rfl : k = 0 := by omega
        rw [bin_0, bin_0]
theorem triM (hS : SH u) (hn : n ≤ 20) (hb : b ≤ n) : ∃ v, fX12_atLeast 55 (J n) (J b) u = some (K (hds n b (n + 1)), v) ∧ Fr (fun _ _ => False) u v := by
  obtain ⟨v1, x1, x2, x3⟩ := tri1 (n := n) hS hn (J b)
  have s1 := x2.SH hS
  have h := lp_inv (f := fun s : Int32 × Mem => bX12_atLeast_30 55 (J n) (J b) s.1 s.2) (E := fun v => Fr (fun _ _ => False) v1 v ∧ TriOK n n v)
    (fun m s => s.1 = J (m : Nat) ∧ Fr (fun _ _ => False) v1 s.2 ∧ TriOK n m s.2) n (F := FU) (s := ((0 : Int32), v1)) ⟨rfl, Fr.rfl, x3⟩ ?_ ?_ (FU_gt (by omega))
  · obtain ⟨v2, y1, y2, y3⟩ := h
    have s2 := y2.SH s1
    have e : lp (fun s : Int64 × Int32 => bX12_atLeast_79 55 (J n) v2 s.1 s.2) FU ((0 : Int64), J b) = some (K (hds n b (n + 1))) := by
      have hz : ∀ j, j ≤ b → hds n b j = 0 := by
        intro j hj
        unfold hds
        refine (sumN_congr (f := fun _ => 0) _ fun k hk => ?_).trans (sumN_0 _)
        rw [if_neg (by omega)]
      have h := lp_for (f := fun s : Int64 × Int32 => bX12_atLeast_79 55 (J n) v2 s.1 s.2) (fun m => (K (hds n b (b + m)), J ((b + m : Nat) : Int))) (n + 1 - b) FU (K (hds n b (n + 1))) (FU_gt (by omega)) (fun m hm => ?_) ?_
      · have e0 : ((K (hds n b (b + 0)), J ((b + 0 : Nat) : Int)) : Int64 × Int32) = ((0 : Int64), J b) := by rw [hz (b + 0) (by omega)]; rfl
        rw [← e0]
        exact h
      · show bX12_atLeast_79 55 (J n) v2 (K (hds n b (b + m))) (J ((b + m : Nat) : Int)) = _
        have eS : hds n b (b + (m + 1)) = hds n b (b + m) + (bin n (b + m) : Nat) := by
          show hds n b (b + m + 1) = _
          rw [hds_s, if_pos (by omega)]
        unfold bX12_atLeast_79
        rw [eS]
        simp (disch := first | (simp only [SH_sIi, SH_sLi]; assumption) | assumption | (simp only [nN_sI, nN_sL, nN_sR]; assumption) | omega) only [↓s_nm, ↓s_bnd2, ↓s_some, ↓s_suml, ↓s_sumr, ↓s_nz, ↓gi_q, ↓pi_q, ↓ck_q, ↓gi_gs, ↓gr_gs, ↓g_55_10, ↓g_55_11, ↓g_55_12, ↓g_55_13, ↓g_55_14, ↓g_55_15, ↓g_55_24, ↓g_55_28, ↓g_55_29, ↓g_55_30, ↓g_55_31, ↓g_55_32, ↓g_55_33, ↓g_55_34, ↓g_55_35, ↓g_55_36, ↓g_55_37, ↓g_55_38, ↓g_55_39, ↓g_55_40, ↓g_55_41, ↓g_55_42, ↓g_55_43, ↓g_55_44, ↓g_55_47, ↓g_55_48, ↓g_55_49, ↓g_55_50, ↓g_55_51, ↓g_55_52, ↓g_55_53, ↓g_55_54, ↓al_56, ↓al_57, ↓al_58, ↓al_59, ↓al_61, ↓al_62, ↓al_63, ↓al_64, ↓al_65, ↓al_66, ↓al_67, ↓al_68, ↓al_69, ↓al_70, ↓al_71, ↓al_72, ↓al_73, ↓al_74, ↓al_75, ↓al_76, ↓al_77, ↓al_78, ↓al_79, ↓al_80, ↓al_81, ↓al_82, ↓al_83, ↓al_84, ↓al_85, ↓al_86, ↓al_87, ↓as_56, ↓as_57, ↓as_58, ↓as_59, ↓as_61, ↓as_62, ↓as_63, ↓as_64, ↓as_65, ↓as_66, ↓as_67, ↓as_68, ↓as_69, ↓as_70, ↓as_71, ↓as_72, ↓as_73, ↓as_74, ↓as_75, ↓as_76, ↓as_77, ↓as_78, ↓as_79, ↓as_80, ↓as_81, ↓as_82, ↓as_83, ↓as_84, ↓as_85, ↓as_86, ↓as_87, ↓gi_55, ↓pi_55, ↓ck_55, ↓gi_60, ↓pi_60, ↓ck_60, j0, j1, j2, j3, j4, j5, j6, j7, j8, j9, j10, j11, j12, j13, j14, j15, j16, j17, j18, j19, j20, j21, j24, j25, j30, j31, j32, j36, j41, j48, j49, j57, j59, j60, j63, j64, j81, j97, j99, j100, j122, j255, j300, j400, j500, j999, j1000, j24000, j_add, j_sub, j_mul, j_neg, j_lt, j_le, j_eq, nI_sI, nR_sI, nN_sI, nI_sR, nR_sR, nN_sR, Int.toNat_natCast, true_and, and_true, false_and, and_false, if_true, if_false, reduceIte, Nat.reduceEqDiff, Option.some.injEq, Prod.mk.injEq, k_of, k_add, k_sub, k_mul, k_neg, lg_ltJ, lg_gtJ, lg_eqJ, b_0, b_J0, b_J1, b_retZ, k0, k1, k2, k3, k10, k19, k20, k30, k40, k999, ↓in_b, ↓dayM_b, ↓gsrM_b, ↓isqM_b, Int.add_sub_cancel, not_true, not_false_eq_true, jn1, Bool.false_eq_true, Bool.true_eq_false, reduceCtorEq, show ¬ ((n : Int) < ((b + m : Nat) : Int)) by omega, y3 (b + m) (by omega)]
        rw [show ((b + m : Nat) : Int) + 1 = ((b + (m + 1) : Nat) : Int) by omega]
      · show bX12_atLeast_79 55 (J n) v2 (K (hds n b (b + (n + 1 - b)))) (J ((b + (n + 1 - b) : Nat) : Int)) = _
        rw [show b + (n + 1 - b) = n + 1 by omega]
        unfold bX12_atLeast_79
        rw [if_pos]
        rw [j_lt _ _ (by omega) (by omega) (by omega) (by omega)]
        omega
    refine ⟨v2, ?_, x2.trans y2⟩
    unfold fX12_atLeast
    rw [x1, s_some, y1, s_some, e]
    rfl
  · rintro m ⟨s, v⟩ hm ⟨e1, e2, e3⟩
    simp only at e1 e2 e3
    subst e1
    have sv := e2.SH s1
    obtain ⟨w, z1, z2, z3⟩ := tri2in sv hn e3 (J b) (J m)
    refine ⟨(J (m + 1 : Nat), w), ?_, rfl, e2.trans z2, z3⟩
    show bX12_atLeast_30 55 (J n) (J b) (J m) v = _
    unfold bX12_atLeast_30
    rw [if_pos ((j_lt _ _ (by omega) (by omega) (by omega) (by omega)).mpr (show (m : Int) < n by omega)), z1]
    simp only [s_some, s_nm, j1, j_add, jn1]
  · rintro ⟨s, v⟩ ⟨e1, e2, e3⟩
    simp only at e1 e2 e3
    subst e1
    refine ⟨v, ?_, e2, e3⟩
    show bX12_atLeast_30 55 (J n) (J b) (J n) v = _
    unfold bX12_atLeast_30
    rw [if_neg]
    rw [j_lt _ _ (by omega) (by omega) (by omega) (by omega)]
    omega
end HEADS
