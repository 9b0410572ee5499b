/-! mend: the class's range of tenths -/
def lowT (D : Sp) (q i : Nat) (v : Int) : Int := if D 73 i = 2 then 10 - v else if D 73 i = 0 ∧ D 72 i = q then v else 0
def hiT (D : Sp) (q i : Nat) (v : Int) : Int := if D 73 i = 1 then 10 - v else if D 73 i = 0 ∧ D 71 i = q then v else 10
def mnQ (D : Sp) (i : Nat) : Nat := (min (D 71 i) (D 72 i)).toNat
def loN (D : Sp) (n : Nat) (f : Nat → Int) (q : Nat) : Nat → Int
  | 0 => 0
  | m + 1 => if td D n q m = true then max (loN D n f q m) (lowT D q m (f (mnQ D m))) else loN D n f q m
def hiN (D : Sp) (n : Nat) (f : Nat → Int) (q : Nat) : Nat → Int
  | 0 => 10
  | m + 1 => if td D n q m = true then min (hiN D n f q m) (hiT D q m (f (mnQ D m))) else hiN D n f q m
section MENDC
variable {C D : Sp} {n N : Nat} {h f : Nat → Int} {u u' : Mem} {β : Type} {q i : Nat} {t v : Int}
theorem td_iff (i : Nat) : td D n q i = true ↔ max (D 71 i) (D 72 i) = q ∧ bt n (mnQ D i) = 1 := by
  unfold td mnQ
  simp only [Bool.and_eq_true, decide_eq_true_eq, beq_iff_eq]
theorem lowT_rng (hk : 0 ≤ D 73 i ∧ D 73 i ≤ 2) (hv : 0 ≤ v ∧ v ≤ 10) : (0 ≤ lowT D q i v ∧ lowT D q i v ≤ 10) ∧ 0 ≤ hiT D q i v ∧ hiT D q i v ≤ 10 := by
  unfold lowT hiT
  refine ⟨?_, ?_⟩
  · by_cases h1 : D 73 i = 2
    · rw [if_pos h1]; omega
    · rw [if_neg h1]; split <;> omega
  · by_cases h1 : D 73 i = 1
    · rw [if_pos h1]; omega
    · rw [if_neg h1]; split <;> omega
theorem rngT (hD : OkD C D) (hi : i < nT D) (htd : td D n q i = true) (hv : 0 ≤ f (mnQ D i) ∧ f (mnQ D i) ≤ 10) (ht : 0 ≤ t ∧ t ≤ 10) : brk (D 73 i) (updF f q t (D 71 i).toNat) (updF f q t (D 72 i).toNat) = false ↔ lowT D q i (f (mnQ D i)) ≤ t ∧ t ≤ hiT D q i (f (mnQ D i)) := by
  have ot := hD.2.2.2.2.2.1 i hi
  rw [td_iff] at htd
  obtain ⟨h1, h2⟩ := htd
  by_cases ha : D 71 i = q
  · have e1 : updF f q t (D 71 i).toNat = t := by unfold updF; rw [if_pos (by omega)]
    have e2 : updF f q t (D 72 i).toNat = f (mnQ D i) := by
      unfold updF mnQ
      rw [if_neg (by omega), show (min (D 71 i) (D 72 i)).toNat = (D 72 i).toNat by omega]
    have hb : ¬ (D 72 i = q) := by omega
    rw [e1, e2]
    unfold brk lowT hiT
    by_cases k0 : D 73 i = 0
    · rw [if_pos k0, if_neg (by omega), if_neg (fun x => hb x.2), if_neg (by omega), if_pos ⟨k0, ha⟩, decide_eq_false_iff_not]; omega
    · by_cases k1 : D 73 i = 1
      · rw [if_neg k0, if_pos k1, if_neg (by omega), if_neg (fun x => k0 x.1), if_pos k1, decide_eq_false_iff_not]; omega
      · rw [if_neg k0, if_neg k1, if_pos (by omega), if_neg k1, if_neg (fun x => k0 x.1), decide_eq_false_iff_not]; omega
  · have hb : D 72 i = q := by omega
    have e1 : updF f q t (D 72 i).toNat = t := by unfold updF; rw [if_pos (by omega)]
    have e2 : updF f q t (D 71 i).toNat = f (mnQ D i) := by
      unfold updF mnQ
      rw [if_neg (by omega), show (min (D 71 i) (D 72 i)).toNat = (D 71 i).toNat by omega]
    rw [e1, e2]
    unfold brk lowT hiT
    by_cases k0 : D 73 i = 0
    · rw [if_pos k0, if_neg (by omega), if_pos ⟨k0, hb⟩, if_neg (by omega), if_neg (fun x => ha x.2), decide_eq_false_iff_not]; omega
    · by_cases k1 : D 73 i = 1
      · rw [if_neg k0, if_pos k1, if_neg (by omega), if_neg (fun x => k0 x.1), if_pos k1, decide_eq_false_iff_not]; omega
      · rw [if_neg k0, if_neg k1, if_pos (by omega), if_neg k1, if_neg (fun x => k0 x.1), decide_eq_false_iff_not]; omega
def FOK (n : Nat) (f : Nat → Int) (q : Nat) : Prop := ∀ x, x < q → bt n x = 1 → 0 ≤ f x ∧ f x ≤ 10
theorem mnQ_lt (hD : OkD C D) (hi : i < nT D) (htd : td D n q i = true) : mnQ D i < q ∧ bt n (mnQ D i) = 1 := by
  have ot := hD.2.2.2.2.2.1 i hi
  rw [td_iff] at htd
  refine ⟨?_, htd.2⟩
  unfold mnQ
  omega
theorem lohi_rng (hD : OkD C D) (hf : FOK n f q) : ∀ m, m ≤ nT D → (0 ≤ loN D n f q m ∧ loN D n f q m ≤ 10) ∧ 0 ≤ hiN D n f q m ∧ hiN D n f q m ≤ 10 := by
  intro m
  induction m with
  | zero => intro _; exact ⟨⟨Int.le_refl _, by show (0 : Int) ≤ 10; omega⟩, by show (0 : Int) ≤ 10; omega, Int.le_refl _⟩
  | succ m ih =>
    intro hm
    have ih := ih (by omega)
    rw [loN, hiN]
    by_cases ht : td D n q m = true
    · rw [if_pos ht, if_pos ht]
      obtain ⟨w1, w2⟩ := mnQ_lt hD (i := m) (by omega) ht
      have ot := hD.2.2.2.2.2.1 m (by omega)
      have := lowT_rng (D := D) (q := q) (i := m) (v := f (mnQ D m)) (by omega) (hf _ w1 w2)
      omega
    · rw [if_neg ht, if_neg ht]; exact ih
theorem lohi (hD : OkD C D) (hf : FOK n f q) (ht : 0 ≤ t ∧ t ≤ 10) : ∀ m, m ≤ nT D → ((loN D n f q m ≤ t ∧ t ≤ hiN D n f q m) ↔ anyN (fun k => td D n q k && brk (D 73 k) (updF f q t (D 71 k).toNat) (updF f q t (D 72 k).toNat)) m = false) := by
  intro m
  induction m with
  | zero => intro _; exact ⟨fun _ => rfl, fun _ => ⟨ht.1, ht.2⟩⟩
  | succ m ih =>
    intro hm
    have ih := ih (by omega)
    rw [loN, hiN, anyN, Bool.or_eq_false_iff, ← ih]
    by_cases htd : td D n q m = true
    · rw [if_pos htd, if_pos htd, htd, Bool.true_and]
      obtain ⟨w1, w2⟩ := mnQ_lt hD (i := m) (by omega) htd
      rw [rngT hD (by omega) htd (hf _ w1 w2) ht]
      omega
    · have htd' : td D n q m = false := by simpa using htd
      rw [if_neg htd, if_neg htd, htd', Bool.false_and]
      simp
theorem lohi_bad (hD : OkD C D) (hf : FOK n f q) (ht : 0 ≤ t ∧ t ≤ 10) : (loN D n f q (nT D) ≤ t ∧ t ≤ hiN D n f q (nT D)) ↔ bad D n (updF f q t) q = false := lohi hD hf ht (nT D) (Nat.le_refl _)
/-- what stays through the class's search -/
def MC (C D : Sp) (n N : Nat) (h : Nat → Int) (u : Mem) : Prop := SH u ∧ RCa C D u ∧ mI u 49 7 = J (pl n N : Nat) ∧ ∀ q, q < N → bt n q = 1 → mI u 51 (pl n q) = J (q : Nat) ∧ mI u 52 (pl n q) = J (h q)
theorem ptC (hD : OkD C D) (hX : MC C D n N h u) (hN : N ≤ 20) (hp : pl n N ≤ 4) (hq : q < N) (hb : bt n q = 1) (hi : i < nT D) (hC : C 55 25 ≤ 20) {g : Int32 → Option β} : (fX4_placeTiedTo 49 (J (pl n q : Nat)) (J (i : Nat)) u).bind g = g (J (if td D n q i = true then (pl n (mnQ D i) : Nat) else -1)) := by
  obtain ⟨hS, hA, h7, hc⟩ := hX
  have ht := hD.t
  have ot := hD.2.2.2.2.2.1 i hi
  have hpq := pl_lt n hq hb
  have hcq := (hc q hq hb).1
  have e : lp (fun s : Int32 => bX4_placeTiedTo_2 49 (J (pl n q : Nat)) (J (i : Nat)) u s) FU (0 : Int32) = some (if anyN (fun o => decide ((D 71 i = cq n N o ∧ D 72 i = q) ∨ (D 72 i = cq n N o ∧ D 71 i = q))) (pl n q) = true then .inr (J (fstN (fun o => decide ((D 71 i = cq n N o ∧ D 72 i = q) ∨ (D 72 i = cq n N o ∧ D 71 i = q))) 0 (pl n q) : Nat)) else .inl ()) := by
    refine lp_find (f := fun s : Int32 => bX4_placeTiedTo_2 49 (J (pl n q : Nat)) (J (i : Nat)) u s) (fun m => J (m : Nat)) (fun o => decide ((D 71 i = cq n N o ∧ D 72 i = q) ∨ (D 72 i = cq n N o ∧ D 71 i = q))) (fun m => .inr (J (m : Nat))) (.inl ()) (pl n q) FU (FU_gt (by omega)) (fun m hm hx => ?_) (fun m hm hx => ?_) ?_
    · have hx := of_decide_eq_false hx
      obtain ⟨y1, y2, y3⟩ := cq_spec n N m (by omega)
      have hcm := (hc _ y1 y2).1
      rw [y3] at hcm
      show bX4_placeTiedTo_2 49 (J (pl n q : Nat)) (J (i : Nat)) u (J m) = _
      unfold bX4_placeTiedTo_2 jX4_placeTiedTo_2_47 jX4_placeTiedTo_2_48 jX4_placeTiedTo_2_90 jX4_placeTiedTo_2_91
      simp (disch := first | (simp only [SH_sIi, SH_sLi]; assumption) | assumption | (simp only [nN_sI, nN_sL, nN_sR]; assumption) | omega) only [↓s_nm, ↓s_bnd2, ↓s_some, ↓s_suml, ↓s_sumr, ↓s_nz, ↓gi_q, ↓pi_q, ↓ck_q, ↓gi_gs, ↓gr_gs, ↓g_0_0, ↓g_0_1, ↓g_0_2, ↓g_0_3, ↓g_0_4, ↓g_0_5, ↓g_0_6, ↓g_0_7, ↓g_1_0, ↓g_3_0, ↓g_3_3, ↓g_4_0, ↓g_4_1, ↓g_7_0, ↓g_7_1, ↓g_10_0, ↓g_10_1, ↓g_10_2, ↓g_34_0, ↓g_34_1, ↓g_34_2, ↓g_34_3, ↓g_34_4, ↓g_34_5, ↓g_39_2, ↓g_39_3, ↓g_39_4, ↓g_39_5, ↓g_39_6, ↓g_39_7, ↓g_39_8, ↓g_39_9, ↓g_45_0, ↓g_45_1, ↓g_45_2, ↓g_45_4, ↓g_49_0, ↓g_49_1, ↓g_49_2, ↓g_49_3, ↓g_49_4, ↓g_49_5, ↓g_49_6, ↓al_2, ↓al_5, ↓al_6, ↓al_8, ↓al_9, ↓al_11, ↓al_12, ↓al_13, ↓al_35, ↓al_36, ↓al_37, ↓al_38, ↓al_40, ↓al_41, ↓al_42, ↓al_43, ↓al_44, ↓al_46, ↓al_47, ↓al_48, ↓al_50, ↓al_51, ↓al_52, ↓al_53, ↓al_54, ↓as_2, ↓as_5, ↓as_6, ↓as_8, ↓as_9, ↓as_12, ↓as_13, ↓as_35, ↓as_36, ↓as_37, ↓as_38, ↓as_40, ↓as_41, ↓as_42, ↓as_43, ↓as_44, ↓as_46, ↓as_47, ↓as_48, ↓as_50, ↓as_51, ↓as_52, ↓as_53, ↓as_54, ↓gi_0, ↓pi_0, ↓ck_0, ↓gi_1, ↓pi_1, ↓ck_1, ↓gi_3, ↓pi_3, ↓ck_3, ↓gi_4, ↓pi_4, ↓ck_4, ↓gi_7, ↓pi_7, ↓ck_7, ↓gi_10, ↓pi_10, ↓ck_10, ↓gi_34, ↓pi_34, ↓ck_34, ↓gi_39, ↓pi_39, ↓ck_39, ↓gi_45, ↓pi_45, ↓ck_45, ↓gi_49, ↓pi_49, ↓ck_49, j0, j1, j2, j3, j4, j5, j6, j7, j8, j9, j10, j11, j12, j13, j14, j15, j16, j17, j18, j19, j20, j21, j24, j25, j30, j31, j32, j36, j41, j48, j49, j57, j59, j60, j63, j64, j81, j97, j99, j100, j122, j255, j300, j400, j500, j999, j1000, j24000, j_add, j_sub, j_mul, j_neg, j_lt, j_le, j_eq, nI_sI, nR_sI, nN_sI, nI_sR, nR_sR, nN_sR, Int.toNat_natCast, true_and, and_true, false_and, and_false, if_true, if_false, reduceIte, Nat.reduceEqDiff, Option.some.injEq, Prod.mk.injEq, k_of, k_add, k_sub, k_mul, k_neg, lg_ltJ, lg_gtJ, lg_eqJ, b_0, b_J0, b_J1, b_retZ, k0, k1, k2, k3, k10, k19, k20, k30, k40, k999, ↓dayC_b, ↓gsrC_b, ↓tenC_b, ↓zooC_b, ↓isqC_b, Int.add_sub_cancel, not_true, not_false_eq_true, jn1, Bool.false_eq_true, Bool.true_eq_false, reduceCtorEq, a_len hA, a_byte hA, a_fk hA, a_fp hA, a_half hA, a_past hA, a_cd hA, a_cm hA, a_least hA, a_yes hA, a_no hA, a_nq hA, a_ng hA, a_nt hA, a_t1 hA, a_t2 hA, a_t3 hA, a_men hA, hcm, hcq, show (m : Int) < (pl n q : Nat) by omega, show ¬ ((1 : Int) = 0) by omega]
      (repeat' split) <;> first | rfl | (exfalso; omega)
    · have hx := of_decide_eq_true hx
      obtain ⟨y1, y2, y3⟩ := cq_spec n N m (by omega)
      have hcm := (hc _ y1 y2).1
      rw [y3] at hcm
      show bX4_placeTiedTo_2 49 (J (pl n q : Nat)) (J (i : Nat)) u (J m) = _
      unfold bX4_placeTiedTo_2 jX4_placeTiedTo_2_47 jX4_placeTiedTo_2_48 jX4_placeTiedTo_2_90 jX4_placeTiedTo_2_91
      simp (disch := first | (simp only [SH_sIi, SH_sLi]; assumption) | assumption | (simp only [nN_sI, nN_sL, nN_sR]; assumption) | omega) only [↓s_nm, ↓s_bnd2, ↓s_some, ↓s_suml, ↓s_sumr, ↓s_nz, ↓gi_q, ↓pi_q, ↓ck_q, ↓gi_gs, ↓gr_gs, ↓g_0_0, ↓g_0_1, ↓g_0_2, ↓g_0_3, ↓g_0_4, ↓g_0_5, ↓g_0_6, ↓g_0_7, ↓g_1_0, ↓g_3_0, ↓g_3_3, ↓g_4_0, ↓g_4_1, ↓g_7_0, ↓g_7_1, ↓g_10_0, ↓g_10_1, ↓g_10_2, ↓g_34_0, ↓g_34_1, ↓g_34_2, ↓g_34_3, ↓g_34_4, ↓g_34_5, ↓g_39_2, ↓g_39_3, ↓g_39_4, ↓g_39_5, ↓g_39_6, ↓g_39_7, ↓g_39_8, ↓g_39_9, ↓g_45_0, ↓g_45_1, ↓g_45_2, ↓g_45_4, ↓g_49_0, ↓g_49_1, ↓g_49_2, ↓g_49_3, ↓g_49_4, ↓g_49_5, ↓g_49_6, ↓al_2, ↓al_5, ↓al_6, ↓al_8, ↓al_9, ↓al_11, ↓al_12, ↓al_13, ↓al_35, ↓al_36, ↓al_37, ↓al_38, ↓al_40, ↓al_41, ↓al_42, ↓al_43, ↓al_44, ↓al_46, ↓al_47, ↓al_48, ↓al_50, ↓al_51, ↓al_52, ↓al_53, ↓al_54, ↓as_2, ↓as_5, ↓as_6, ↓as_8, ↓as_9, ↓as_12, ↓as_13, ↓as_35, ↓as_36, ↓as_37, ↓as_38, ↓as_40, ↓as_41, ↓as_42, ↓as_43, ↓as_44, ↓as_46, ↓as_47, ↓as_48, ↓as_50, ↓as_51, ↓as_52, ↓as_53, ↓as_54, ↓gi_0, ↓pi_0, ↓ck_0, ↓gi_1, ↓pi_1, ↓ck_1, ↓gi_3, ↓pi_3, ↓ck_3, ↓gi_4, ↓pi_4, ↓ck_4, ↓gi_7, ↓pi_7, ↓ck_7, ↓gi_10, ↓pi_10, ↓ck_10, ↓gi_34, ↓pi_34, ↓ck_34, ↓gi_39, ↓pi_39, ↓ck_39, ↓gi_45, ↓pi_45, ↓ck_45, ↓gi_49, ↓pi_49, ↓ck_49, j0, j1, j2, j3, j4, j5, j6, j7, j8, j9, j10, j11, j12, j13, j14, j15, j16, j17, j18, j19, j20, j21, j24, j25, j30, j31, j32, j36, j41, j48, j49, j57, j59, j60, j63, j64, j81, j97, j99, j100, j122, j255, j300, j400, j500, j999, j1000, j24000, j_add, j_sub, j_mul, j_neg, j_lt, j_le, j_eq, nI_sI, nR_sI, nN_sI, nI_sR, nR_sR, nN_sR, Int.toNat_natCast, true_and, and_true, false_and, and_false, if_true, if_false, reduceIte, Nat.reduceEqDiff, Option.some.injEq, Prod.mk.injEq, k_of, k_add, k_sub, k_mul, k_neg, lg_ltJ, lg_gtJ, lg_eqJ, b_0, b_J0, b_J1, b_retZ, k0, k1, k2, k3, k10, k19, k20, k30, k40, k999, ↓dayC_b, ↓gsrC_b, ↓tenC_b, ↓zooC_b, ↓isqC_b, Int.add_sub_cancel, not_true, not_false_eq_true, jn1, Bool.false_eq_true, Bool.true_eq_false, reduceCtorEq, a_len hA, a_byte hA, a_fk hA, a_fp hA, a_half hA, a_past hA, a_cd hA, a_cm hA, a_least hA, a_yes hA, a_no hA, a_nq hA, a_ng hA, a_nt hA, a_t1 hA, a_t2 hA, a_t3 hA, a_men hA, hcm, hcq, show (m : Int) < (pl n q : Nat) by omega, show ¬ ((1 : Int) = 0) by omega]
      (repeat' split) <;> first | rfl | (exfalso; omega)
    · show bX4_placeTiedTo_2 49 (J (pl n q : Nat)) (J (i : Nat)) u (J (pl n q : Nat)) = _
      unfold bX4_placeTiedTo_2
      rw [if_neg]
      rw [j_lt _ _ (by omega) (by omega) (by omega) (by omega)]
      omega
  unfold fX4_placeTiedTo
  rw [e]
  by_cases htd : td D n q i = true
  · obtain ⟨w1, w2⟩ := mnQ_lt hD hi htd
    have wp := pl_lt n w1 w2
    have htd' := (td_iff i).mp htd
    have hcm : cq n N (pl n (mnQ D i)) = mnQ D i := by
      obtain ⟨y1, y2, y3⟩ := cq_spec n N (pl n (mnQ D i)) (by omega)
      exact pl_inj n y2 w2 y3
    have hmi : ((mnQ D i : Nat) : Int) = min (D 71 i) (D 72 i) := by unfold mnQ; omega
    have hpm : decide ((D 71 i = cq n N (pl n (mnQ D i)) ∧ D 72 i = q) ∨ (D 72 i = cq n N (pl n (mnQ D i)) ∧ D 71 i = q)) = true := by
      rw [decide_eq_true_eq, hcm, hmi]
      omega
    have hany : anyN (fun o => decide ((D 71 i = cq n N o ∧ D 72 i = q) ∨ (D 72 i = cq n N o ∧ D 71 i = q))) (pl n q) = true := (anyN_iff _).mpr ⟨_, wp, hpm⟩
    obtain ⟨z1, z2, z3⟩ := fstN_spec (p := fun o => decide ((D 71 i = cq n N o ∧ D 72 i = q) ∨ (D 72 i = cq n N o ∧ D 71 i = q))) (pl n q) 0 ⟨_, by omega, by omega, hpm⟩
    have hfst : fstN (fun o => decide ((D 71 i = cq n N o ∧ D 72 i = q) ∨ (D 72 i = cq n N o ∧ D 71 i = q))) 0 (pl n q) = pl n (mnQ D i) := by
      generalize fstN (fun o => decide ((D 71 i = cq n N o ∧ D 72 i = q) ∨ (D 72 i = cq n N o ∧ D 71 i = q))) 0 (pl n q) = o at *
      obtain ⟨y1, y2, y3⟩ := cq_spec n N o (by omega)
      rw [decide_eq_true_eq] at z1
      have hlt : cq n N o < q := by
        by_cases hh : cq n N o < q
        · exact hh
        · exfalso
          have := pl_mono n (a := q) (b := cq n N o) (by omega)
          omega
      have : cq n N o = mnQ D i := by omega
      rw [← this, y3]
    rw [if_pos hany, if_pos htd, hfst]
    rfl
  · have hany : ¬ (anyN (fun o => decide ((D 71 i = cq n N o ∧ D 72 i = q) ∨ (D 72 i = cq n N o ∧ D 71 i = q))) (pl n q) = true) := by
      intro hx
      obtain ⟨o, ho, hp1⟩ := (anyN_iff _).mp hx
      obtain ⟨y1, y2, y3⟩ := cq_spec n N o (by omega)
      rw [decide_eq_true_eq] at hp1
      apply htd
      rw [td_iff]
      have hlt : cq n N o < q := by
        by_cases hh : cq n N o < q
        · exact hh
        · exfalso
          have := pl_mono n (a := q) (b := cq n N o) (by omega)
          omega
      have hmq : mnQ D i = cq n N o := by unfold mnQ; omega
      refine ⟨by omega, ?_⟩
      rw [hmq]; exact y2
    rw [if_neg hany, if_neg htd]
    rfl
end MENDC
