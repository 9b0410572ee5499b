/-! mend: choosing, and the first bound -/
theorem shlK : ∀ q : Nat, q < 21 → K 1 <<< (K (q : Nat) &&& 63) = K ((2 ^ q : Nat) : Int) := by decide +kernel
theorem po4_mod (m : Nat) : po4 (m % 16) = m % 2 + m / 2 % 2 + m / 4 % 2 + m / 8 % 2 := by unfold po4; omega
theorem bt_d (n a b : Nat) : bt n (a + b) = bt (n / 2 ^ a) b := by
  unfold bt
  rw [Nat.div_div_eq_div_mul, Nat.pow_add]
theorem pl4 (n : Nat) : ∀ a, pl n (a + 4) = pl n a + po4 (n / 2 ^ a % 16) := by
  intro a
  rw [po4_mod]
  show pl n a + bt n a + bt n (a + 1) + bt n (a + 2) + bt n (a + 3) = _
  have e0 : bt n a = n / 2 ^ a % 2 := rfl
  rw [bt_d n a 1, bt_d n a 2, bt_d n a 3, e0]
  unfold bt
  omega
theorem popP {n : Nat} (hn : n < 1048576) {u : Mem} {β : Type} {g : Int32 → Option β} : (fJ6_bitCount_0f7a4 (J (n : Nat)) u).bind g = g (J (pl n 20 : Nat)) := by
  have en : n = n % 16 + 16 * (n / 16 % 16 + 16 * (n / 256 % 16 + 16 * (n / 4096 % 16 + 16 * (n / 65536 % 16)))) := by
    have h1 : n = n % 16 + 16 * (n / 16) := by omega
    have h2 : n / 16 = n / 16 % 16 + 16 * (n / 256) := by omega
    have h3 : n / 256 = n / 256 % 16 + 16 * (n / 4096) := by omega
    have h4 : n / 4096 = n / 4096 % 16 + 16 * (n / 65536) := by omega
    have h5 : n / 65536 = n / 65536 % 16 := by omega
    rw [← h5, ← h4, ← h3, ← h2, ← h1]
  have e := pop5 (u := u) en (by omega) (by omega) (by omega) (by omega) (by omega)
  have ep : pl n 20 = po4 (n % 16) + po4 (n / 16 % 16) + po4 (n / 256 % 16) + po4 (n / 4096 % 16) + po4 (n / 65536 % 16) := by
    rw [show (20 : Nat) = 16 + 4 from rfl, pl4, show (16 : Nat) = 12 + 4 from rfl, pl4, show (12 : Nat) = 8 + 4 from rfl, pl4, show (8 : Nat) = 4 + 4 from rfl, pl4, show (4 : Nat) = 0 + 4 from rfl, pl4]
    show 0 + po4 (n / 1 % 16) + po4 (n / 16 % 16) + po4 (n / 256 % 16) + po4 (n / 4096 % 16) + po4 (n / 65536 % 16) = _
    rw [Nat.div_one, Nat.zero_add]
  rw [e, s_some, ep]
theorem bt_hi {n N q : Nat} (h : n < 2 ^ N) (hq : N ≤ q) : bt n q = 0 := by
  have h1 : 2 ^ N ≤ 2 ^ q := Nat.pow_le_pow_right (by decide) hq
  unfold bt
  rw [Nat.div_eq_of_lt (by omega)]
theorem pl_hi {n N : Nat} (h : n < 2 ^ N) : ∀ m, pl n (N + m) = pl n N := by
  intro m
  induction m with
  | zero => rfl
  | succ m ih =>
    show pl n (N + m) + bt n (N + m) = _
    rw [bt_hi h (by omega), ih, Nat.add_zero]
/-- the sum of changes to fives, by question -/
def fq (n : Nat) (h : Nat → Int) : Nat → Int
  | 0 => 0
  | q + 1 => fq n h q + if bt n q = 1 then ab (h q - 5) else 0
theorem fq_s (n : Nat) (h : Nat → Int) (q : Nat) : fq n h (q + 1) = fq n h q + if bt n q = 1 then ab (h q - 5) else 0 := rfl
theorem fq_const {n : Nat} {h : Nat → Int} {a : Nat} : ∀ m, pl n (a + m) = pl n a → fq n h (a + m) = fq n h a := by
  intro m
  induction m with
  | zero => intro _; rfl
  | succ m ih =>
    intro e
    have h1 := pl_mono n (a := a) (b := a + m) (by omega)
    have e' : pl n (a + m) + bt n (a + m) = pl n a := e
    show fq n h (a + m + 1) = _
    rw [fq_s, if_neg (by omega), ih (by omega)]
    omega
theorem ab_sym (x y : Int) : ab (x - y) = ab (y - x) := by unfold ab; omega
theorem fiv_fq (n N : Nat) (h : Nat → Int) : ∀ k, k ≤ N → fiv n N h k + fq n h (N - k) = fq n h N := by
  intro k
  induction k with
  | zero => intro _; show 0 + fq n h N = _; omega
  | succ k ih =>
    intro hk
    have ih := ih (by omega)
    rw [fiv]
    rw [show N - k = N - (k + 1) + 1 by omega, fq_s] at ih
    by_cases hb : bt n (N - (k + 1)) = 1
    · rw [if_pos hb] at ih ⊢
      rw [ab_sym] at ih
      omega
    · rw [if_neg hb] at ih ⊢
      omega
theorem fq_rng {n : Nat} {h : Nat → Int} {N : Nat} (hh : ∀ x, x < N → bt n x = 1 → 0 ≤ h x ∧ h x ≤ 10) : ∀ q, q ≤ N → 0 ≤ fq n h q ∧ fq n h q ≤ 5 * q := by
  intro q
  induction q with
  | zero => intro _; exact ⟨Int.le_refl _, Int.le_refl _⟩
  | succ q ih =>
    intro hq
    have ih := ih (by omega)
    rw [fq_s]
    by_cases hb : bt n q = 1
    · rw [if_pos hb]
      have := hh q (by omega) hb
      unfold ab
      omega
    · rw [if_neg hb]; omega
/-- the question at a place; N behind the last -/
def cP (n N i : Nat) : Nat := if i < pl n N then cq n N i else N
def PCh (a k : Nat) : Prop := a = 51 ∨ a = 52 ∨ (a = 49 ∧ k = 7)
section MEND
variable {C D : Sp} {n m : Nat} {h f : Nat → Int} {u u' : Mem} {β : Type} {q i g : Nat} {a b d t v z : Int} {P : Nat → Nat → Prop}
theorem RCa_mend (hA : RCa C D u) (fr : Fr P u u') (hP : ∀ a k, P a k → a = 49 ∨ (51 ≤ a ∧ a ≤ 54)) : RCa C D u' := RCa_eq hA fun a k ha => fr.2.2 a k fun hp => by have := hP a k hp; omega
theorem RCg_mend (hG : RCg C u) (fr : Fr P u u') (hP : ∀ a k, P a k → a = 49 ∨ (50 ≤ a ∧ a ≤ 54)) : RCg C u' := RCg_eq hG fr.1 (fun a k h1 => fr.2.2 a k fun hp => by have := hP a k hp; omega) fun a k _ => fr.2.1 a k
theorem chooseC (hS : SH u) (hC : OkC C) (hA : RCa C D u) (hG : RCg C u) (hg : g < 20) (hd0 : 0 ≤ d) (hd : d ≤ 999) (hn : n < 2147483648) (hp : pl n (nQ C) ≤ 4) :
    ∃ v, Fr PCh u v ∧ ((fX4_choose 49 (J g) (J d) (J (n : Nat)) u = some (1, v) ∧ mI v 49 7 = J (pl n (nQ C) : Nat) ∧ ∀ q, q < nQ C → bt n q = 1 → mI v 51 (pl n q) = J (q : Nat) ∧ mI v 52 (pl n q) = J (hl C g q d) ∧ hl C g q d ≠ -1) ∨ (fX4_choose 49 (J g) (J d) (J (n : Nat)) u = some (0, v) ∧ ∃ q, q < nQ C ∧ bt n q = 1 ∧ hl C g q d = -1)) := by
  have hqq := hC.q
  have h0 := lp_ind (f := fun s : Int32 × Mem => bX4_choose_8 49 (J g) (J d) (J (n : Nat)) s.1 s.2) (E := fun r => match r with
      | .inl v => Fr PCh u v ∧ mI v 49 7 = J (pl n (nQ C) : Nat) ∧ ∀ q, q < nQ C → bt n q = 1 → mI v 51 (pl n q) = J (q : Nat) ∧ mI v 52 (pl n q) = J (hl C g q d) ∧ hl C g q d ≠ -1
      | .inr v => Fr PCh u v ∧ ∃ q, q < nQ C ∧ bt n q = 1 ∧ hl C g q d = -1)
    (fun m s => s.1 = J (m : Nat) ∧ Fr PCh u s.2 ∧ mI s.2 49 7 = J (pl n m : Nat) ∧ ∀ q, q < m → bt n q = 1 → mI s.2 51 (pl n q) = J (q : Nat) ∧ mI s.2 52 (pl n q) = J (hl C g q d) ∧ hl C g q d ≠ -1) (nQ C) ?_ FU (FU_gt (by omega)) (J 0, sI u 49 7 (J 0)) ⟨rfl, Fr.rfl.sI (by unfold PCh; omega), by show mI (sI u 49 7 (J 0)) 49 7 = J 0; simp [mI_sI], fun q hq => by omega⟩
  · obtain ⟨r, e1, h1⟩ := h0
    have eu : fX4_choose 49 (J g) (J d) (J (n : Nat)) u = sumE r (fun r26 => some ((1 : Int32), r26)) (fun r27 => some ((0 : Int32), r27)) := by
      unfold fX4_choose
      rw [show (0 : Int32) = J 0 from rfl, pi_49 hS, e1]
      rfl
    cases r with
    | inl v => exact ⟨v, h1.1, Or.inl ⟨eu, h1.2⟩⟩
    | inr v => exact ⟨v, h1.1, Or.inr ⟨eu, h1.2⟩⟩
  · rintro m ⟨s, v⟩ hm ⟨e1, e2, e3, e4⟩
    simp only at e1 e2 e3 e4
    subst e1
    have sv := e2.SH hS
    have hA1 := RCa_mend hA e2 (fun a k h => by unfold PCh at h; omega)
    have hG1 := RCg_mend hG e2 (fun a k h => by unfold PCh at h; omega)
    by_cases hmN : m < nQ C
    · have hpm := pl_mono n (a := m) (b := nQ C) (by omega)
      by_cases c4 : pl n m < 4
      · by_cases hb : bt n m = 1
        · have f1 : Fr PCh v (sI v 51 (pl n m) (J (m : Nat))) := Fr.rfl.sI (by unfold PCh; omega)
          have s1 : SH (sI v 51 (pl n m) (J (m : Nat))) := sv
          have hG2 := RCg_mend hG1 f1 (fun a k h => by unfold PCh at h; omega)
          have hr : -1 ≤ hl C g m d ∧ hl C g m d ≤ 10 := hl_rng hC g m d (Nat.le_refl _)
          by_cases ch : hl C g m d = -1
          · refine Or.inr ⟨.inr (sI (sI v 51 (pl n m) (J (m : Nat))) 52 (pl n m) (J (hl C g m d))), ?_, (e2.sI (by unfold PCh; omega)).sI (by unfold PCh; omega), m, hmN, hb, ch⟩
            show bX4_choose_8 49 (J g) (J d) (J (n : Nat)) (J m) v = _
            unfold bX4_choose_8
            simp (disch := first | (simp only [SH_sIi, SH_sLi]; assumption) | assumption | (simp only [nN_sI, nN_sL, nN_sR]; assumption) | omega) only [↓s_nm, ↓s_bnd2, ↓s_some, ↓s_suml, ↓s_sumr, ↓s_nz, ↓gi_q, ↓pi_q, ↓ck_q, ↓gi_gs, ↓gr_gs, ↓g_0_0, ↓g_0_1, ↓g_0_2, ↓g_0_3, ↓g_0_4, ↓g_0_5, ↓g_0_6, ↓g_0_7, ↓g_1_0, ↓g_3_0, ↓g_3_3, ↓g_4_0, ↓g_4_1, ↓g_7_0, ↓g_7_1, ↓g_10_0, ↓g_10_1, ↓g_10_2, ↓g_34_0, ↓g_34_1, ↓g_34_2, ↓g_34_3, ↓g_34_4, ↓g_34_5, ↓g_39_2, ↓g_39_3, ↓g_39_4, ↓g_39_5, ↓g_39_6, ↓g_39_7, ↓g_39_8, ↓g_39_9, ↓g_45_0, ↓g_45_1, ↓g_45_2, ↓g_45_4, ↓g_49_0, ↓g_49_1, ↓g_49_2, ↓g_49_3, ↓g_49_4, ↓g_49_5, ↓g_49_6, ↓al_2, ↓al_5, ↓al_6, ↓al_8, ↓al_9, ↓al_11, ↓al_12, ↓al_13, ↓al_35, ↓al_36, ↓al_37, ↓al_38, ↓al_40, ↓al_41, ↓al_42, ↓al_43, ↓al_44, ↓al_46, ↓al_47, ↓al_48, ↓al_50, ↓al_51, ↓al_52, ↓al_53, ↓al_54, ↓as_2, ↓as_5, ↓as_6, ↓as_8, ↓as_9, ↓as_12, ↓as_13, ↓as_35, ↓as_36, ↓as_37, ↓as_38, ↓as_40, ↓as_41, ↓as_42, ↓as_43, ↓as_44, ↓as_46, ↓as_47, ↓as_48, ↓as_50, ↓as_51, ↓as_52, ↓as_53, ↓as_54, ↓gi_0, ↓pi_0, ↓ck_0, ↓gi_1, ↓pi_1, ↓ck_1, ↓gi_3, ↓pi_3, ↓ck_3, ↓gi_4, ↓pi_4, ↓ck_4, ↓gi_7, ↓pi_7, ↓ck_7, ↓gi_10, ↓pi_10, ↓ck_10, ↓gi_34, ↓pi_34, ↓ck_34, ↓gi_39, ↓pi_39, ↓ck_39, ↓gi_45, ↓pi_45, ↓ck_45, ↓gi_49, ↓pi_49, ↓ck_49, j0, j1, j2, j3, j4, j5, j6, j7, j8, j9, j10, j11, j12, j13, j14, j15, j16, j17, j18, j19, j20, j21, j24, j25, j30, j31, j32, j36, j41, j48, j49, j57, j59, j60, j63, j64, j81, j97, j99, j100, j122, j255, j300, j400, j500, j999, j1000, j24000, j_add, j_sub, j_mul, j_neg, j_lt, j_le, j_eq, nI_sI, nR_sI, nN_sI, nI_sR, nR_sR, nN_sR, Int.toNat_natCast, true_and, and_true, false_and, and_false, if_true, if_false, reduceIte, Nat.reduceEqDiff, Option.some.injEq, Prod.mk.injEq, k_of, k_add, k_sub, k_mul, k_neg, lg_ltJ, lg_gtJ, lg_eqJ, b_0, b_J0, b_J1, b_retZ, k0, k1, k2, k3, k10, k19, k20, k30, k40, k999, ↓dayC_b, ↓gsrC_b, ↓tenC_b, ↓zooC_b, ↓isqC_b, Int.add_sub_cancel, not_true, not_false_eq_true, jn1, Bool.false_eq_true, Bool.true_eq_false, reduceCtorEq, a_nq hA1, show (m : Int) < C 55 25 by omega, e3, show ((pl n m : Nat) : Int) < 4 by omega, bit1 n m hn (by omega) hb]
            rw [heldC_b s1 hC hG2 hg (by omega) (by omega) (by omega)]
            simp (disch := first | (simp only [SH_sIi, SH_sLi]; assumption) | assumption | (simp only [nN_sI, nN_sL, nN_sR]; assumption) | omega) only [↓s_nm, ↓s_bnd2, ↓s_some, ↓s_suml, ↓s_sumr, ↓s_nz, ↓gi_q, ↓pi_q, ↓ck_q, ↓gi_gs, ↓gr_gs, ↓g_0_0, ↓g_0_1, ↓g_0_2, ↓g_0_3, ↓g_0_4, ↓g_0_5, ↓g_0_6, ↓g_0_7, ↓g_1_0, ↓g_3_0, ↓g_3_3, ↓g_4_0, ↓g_4_1, ↓g_7_0, ↓g_7_1, ↓g_10_0, ↓g_10_1, ↓g_10_2, ↓g_34_0, ↓g_34_1, ↓g_34_2, ↓g_34_3, ↓g_34_4, ↓g_34_5, ↓g_39_2, ↓g_39_3, ↓g_39_4, ↓g_39_5, ↓g_39_6, ↓g_39_7, ↓g_39_8, ↓g_39_9, ↓g_45_0, ↓g_45_1, ↓g_45_2, ↓g_45_4, ↓g_49_0, ↓g_49_1, ↓g_49_2, ↓g_49_3, ↓g_49_4, ↓g_49_5, ↓g_49_6, ↓al_2, ↓al_5, ↓al_6, ↓al_8, ↓al_9, ↓al_11, ↓al_12, ↓al_13, ↓al_35, ↓al_36, ↓al_37, ↓al_38, ↓al_40, ↓al_41, ↓al_42, ↓al_43, ↓al_44, ↓al_46, ↓al_47, ↓al_48, ↓al_50, ↓al_51, ↓al_52, ↓al_53, ↓al_54, ↓as_2, ↓as_5, ↓as_6, ↓as_8, ↓as_9, ↓as_12, ↓as_13, ↓as_35, ↓as_36, ↓as_37, ↓as_38, ↓as_40, ↓as_41, ↓as_42, ↓as_43, ↓as_44, ↓as_46, ↓as_47, ↓as_48, ↓as_50, ↓as_51, ↓as_52, ↓as_53, ↓as_54, ↓gi_0, ↓pi_0, ↓ck_0, ↓gi_1, ↓pi_1, ↓ck_1, ↓gi_3, ↓pi_3, ↓ck_3, ↓gi_4, ↓pi_4, ↓ck_4, ↓gi_7, ↓pi_7, ↓ck_7, ↓gi_10, ↓pi_10, ↓ck_10, ↓gi_34, ↓pi_34, ↓ck_34, ↓gi_39, ↓pi_39, ↓ck_39, ↓gi_45, ↓pi_45, ↓ck_45, ↓gi_49, ↓pi_49, ↓ck_49, j0, j1, j2, j3, j4, j5, j6, j7, j8, j9, j10, j11, j12, j13, j14, j15, j16, j17, j18, j19, j20, j21, j24, j25, j30, j31, j32, j36, j41, j48, j49, j57, j59, j60, j63, j64, j81, j97, j99, j100, j122, j255, j300, j400, j500, j999, j1000, j24000, j_add, j_sub, j_mul, j_neg, j_lt, j_le, j_eq, nI_sI, nR_sI, nN_sI, nI_sR, nR_sR, nN_sR, Int.toNat_natCast, true_and, and_true, false_and, and_false, if_true, if_false, reduceIte, Nat.reduceEqDiff, Option.some.injEq, Prod.mk.injEq, k_of, k_add, k_sub, k_mul, k_neg, lg_ltJ, lg_gtJ, lg_eqJ, b_0, b_J0, b_J1, b_retZ, k0, k1, k2, k3, k10, k19, k20, k30, k40, k999, ↓dayC_b, ↓gsrC_b, ↓tenC_b, ↓zooC_b, ↓isqC_b, Int.add_sub_cancel, not_true, not_false_eq_true, jn1, Bool.false_eq_true, Bool.true_eq_false, reduceCtorEq, e3, ch]
          · have hp1 : pl n (m + 1) = pl n m + 1 := by rw [pl_s, hb]
            refine Or.inl ⟨hmN, (J (m + 1 : Nat), sI (sI (sI v 51 (pl n m) (J (m : Nat))) 52 (pl n m) (J (hl C g m d))) 49 7 (J (pl n (m + 1) : Nat))), ?_, rfl, ((e2.sI (by unfold PCh; omega)).sI (by unfold PCh; omega)).sI (by unfold PCh; omega), ?_, fun q hq hbq => ?_⟩
            · show bX4_choose_8 49 (J g) (J d) (J (n : Nat)) (J m) v = _
              unfold bX4_choose_8
              simp (disch := first | (simp only [SH_sIi, SH_sLi]; assumption) | assumption | (simp only [nN_sI, nN_sL, nN_sR]; assumption) | omega) only [↓s_nm, ↓s_bnd2, ↓s_some, ↓s_suml, ↓s_sumr, ↓s_nz, ↓gi_q, ↓pi_q, ↓ck_q, ↓gi_gs, ↓gr_gs, ↓g_0_0, ↓g_0_1, ↓g_0_2, ↓g_0_3, ↓g_0_4, ↓g_0_5, ↓g_0_6, ↓g_0_7, ↓g_1_0, ↓g_3_0, ↓g_3_3, ↓g_4_0, ↓g_4_1, ↓g_7_0, ↓g_7_1, ↓g_10_0, ↓g_10_1, ↓g_10_2, ↓g_34_0, ↓g_34_1, ↓g_34_2, ↓g_34_3, ↓g_34_4, ↓g_34_5, ↓g_39_2, ↓g_39_3, ↓g_39_4, ↓g_39_5, ↓g_39_6, ↓g_39_7, ↓g_39_8, ↓g_39_9, ↓g_45_0, ↓g_45_1, ↓g_45_2, ↓g_45_4, ↓g_49_0, ↓g_49_1, ↓g_49_2, ↓g_49_3, ↓g_49_4, ↓g_49_5, ↓g_49_6, ↓al_2, ↓al_5, ↓al_6, ↓al_8, ↓al_9, ↓al_11, ↓al_12, ↓al_13, ↓al_35, ↓al_36, ↓al_37, ↓al_38, ↓al_40, ↓al_41, ↓al_42, ↓al_43, ↓al_44, ↓al_46, ↓al_47, ↓al_48, ↓al_50, ↓al_51, ↓al_52, ↓al_53, ↓al_54, ↓as_2, ↓as_5, ↓as_6, ↓as_8, ↓as_9, ↓as_12, ↓as_13, ↓as_35, ↓as_36, ↓as_37, ↓as_38, ↓as_40, ↓as_41, ↓as_42, ↓as_43, ↓as_44, ↓as_46, ↓as_47, ↓as_48, ↓as_50, ↓as_51, ↓as_52, ↓as_53, ↓as_54, ↓gi_0, ↓pi_0, ↓ck_0, ↓gi_1, ↓pi_1, ↓ck_1, ↓gi_3, ↓pi_3, ↓ck_3, ↓gi_4, ↓pi_4, ↓ck_4, ↓gi_7, ↓pi_7, ↓ck_7, ↓gi_10, ↓pi_10, ↓ck_10, ↓gi_34, ↓pi_34, ↓ck_34, ↓gi_39, ↓pi_39, ↓ck_39, ↓gi_45, ↓pi_45, ↓ck_45, ↓gi_49, ↓pi_49, ↓ck_49, j0, j1, j2, j3, j4, j5, j6, j7, j8, j9, j10, j11, j12, j13, j14, j15, j16, j17, j18, j19, j20, j21, j24, j25, j30, j31, j32, j36, j41, j48, j49, j57, j59, j60, j63, j64, j81, j97, j99, j100, j122, j255, j300, j400, j500, j999, j1000, j24000, j_add, j_sub, j_mul, j_neg, j_lt, j_le, j_eq, nI_sI, nR_sI, nN_sI, nI_sR, nR_sR, nN_sR, Int.toNat_natCast, true_and, and_true, false_and, and_false, if_true, if_false, reduceIte, Nat.reduceEqDiff, Option.some.injEq, Prod.mk.injEq, k_of, k_add, k_sub, k_mul, k_neg, lg_ltJ, lg_gtJ, lg_eqJ, b_0, b_J0, b_J1, b_retZ, k0, k1, k2, k3, k10, k19, k20, k30, k40, k999, ↓dayC_b, ↓gsrC_b, ↓tenC_b, ↓zooC_b, ↓isqC_b, Int.add_sub_cancel, not_true, not_false_eq_true, jn1, Bool.false_eq_true, Bool.true_eq_false, reduceCtorEq, a_nq hA1, show (m : Int) < C 55 25 by omega, e3, show ((pl n m : Nat) : Int) < 4 by omega, bit1 n m hn (by omega) hb]
              rw [heldC_b s1 hC hG2 hg (by omega) (by omega) (by omega), hp1]
              simp (disch := first | (simp only [SH_sIi, SH_sLi]; assumption) | assumption | (simp only [nN_sI, nN_sL, nN_sR]; assumption) | omega) only [↓s_nm, ↓s_bnd2, ↓s_some, ↓s_suml, ↓s_sumr, ↓s_nz, ↓gi_q, ↓pi_q, ↓ck_q, ↓gi_gs, ↓gr_gs, ↓g_0_0, ↓g_0_1, ↓g_0_2, ↓g_0_3, ↓g_0_4, ↓g_0_5, ↓g_0_6, ↓g_0_7, ↓g_1_0, ↓g_3_0, ↓g_3_3, ↓g_4_0, ↓g_4_1, ↓g_7_0, ↓g_7_1, ↓g_10_0, ↓g_10_1, ↓g_10_2, ↓g_34_0, ↓g_34_1, ↓g_34_2, ↓g_34_3, ↓g_34_4, ↓g_34_5, ↓g_39_2, ↓g_39_3, ↓g_39_4, ↓g_39_5, ↓g_39_6, ↓g_39_7, ↓g_39_8, ↓g_39_9, ↓g_45_0, ↓g_45_1, ↓g_45_2, ↓g_45_4, ↓g_49_0, ↓g_49_1, ↓g_49_2, ↓g_49_3, ↓g_49_4, ↓g_49_5, ↓g_49_6, ↓al_2, ↓al_5, ↓al_6, ↓al_8, ↓al_9, ↓al_11, ↓al_12, ↓al_13, ↓al_35, ↓al_36, ↓al_37, ↓al_38, ↓al_40, ↓al_41, ↓al_42, ↓al_43, ↓al_44, ↓al_46, ↓al_47, ↓al_48, ↓al_50, ↓al_51, ↓al_52, ↓al_53, ↓al_54, ↓as_2, ↓as_5, ↓as_6, ↓as_8, ↓as_9, ↓as_12, ↓as_13, ↓as_35, ↓as_36, ↓as_37, ↓as_38, ↓as_40, ↓as_41, ↓as_42, ↓as_43, ↓as_44, ↓as_46, ↓as_47, ↓as_48, ↓as_50, ↓as_51, ↓as_52, ↓as_53, ↓as_54, ↓gi_0, ↓pi_0, ↓ck_0, ↓gi_1, ↓pi_1, ↓ck_1, ↓gi_3, ↓pi_3, ↓ck_3, ↓gi_4, ↓pi_4, ↓ck_4, ↓gi_7, ↓pi_7, ↓ck_7, ↓gi_10, ↓pi_10, ↓ck_10, ↓gi_34, ↓pi_34, ↓ck_34, ↓gi_39, ↓pi_39, ↓ck_39, ↓gi_45, ↓pi_45, ↓ck_45, ↓gi_49, ↓pi_49, ↓ck_49, j0, j1, j2, j3, j4, j5, j6, j7, j8, j9, j10, j11, j12, j13, j14, j15, j16, j17, j18, j19, j20, j21, j24, j25, j30, j31, j32, j36, j41, j48, j49, j57, j59, j60, j63, j64, j81, j97, j99, j100, j122, j255, j300, j400, j500, j999, j1000, j24000, j_add, j_sub, j_mul, j_neg, j_lt, j_le, j_eq, nI_sI, nR_sI, nN_sI, nI_sR, nR_sR, nN_sR, Int.toNat_natCast, true_and, and_true, false_and, and_false, if_true, if_false, reduceIte, Nat.reduceEqDiff, Option.some.injEq, Prod.mk.injEq, k_of, k_add, k_sub, k_mul, k_neg, lg_ltJ, lg_gtJ, lg_eqJ, b_0, b_J0, b_J1, b_retZ, k0, k1, k2, k3, k10, k19, k20, k30, k40, k999, ↓dayC_b, ↓gsrC_b, ↓tenC_b, ↓zooC_b, ↓isqC_b, Int.add_sub_cancel, not_true, not_false_eq_true, jn1, Bool.false_eq_true, Bool.true_eq_false, reduceCtorEq, e3, ch]
            · show mI (sI (sI (sI v 51 _ _) 52 _ _) 49 7 _) 49 7 = _
              rw [mI_sI, if_pos ⟨rfl, rfl⟩]
            · have hold : q ≠ m → mI v 51 (pl n q) = J (q : Nat) ∧ mI v 52 (pl n q) = J (hl C g q d) ∧ hl C g q d ≠ -1 := fun hqm => e4 q (by omega) hbq
              have hne : q ≠ m → pl n q ≠ pl n m := fun hqm e => hqm (pl_inj n hbq hb e)
              refine ⟨?_, ?_, ?_⟩
              · show mI (sI (sI (sI v 51 (pl n m) _) 52 (pl n m) _) 49 7 _) 51 (pl n q) = _
                rw [mI_sI, if_neg (by omega), mI_sI, if_neg (by omega), mI_sI]
                by_cases hqm : q = m
                · rw [if_pos ⟨rfl, by rw [hqm]⟩, hqm]
                · rw [if_neg fun x => hne hqm x.2]; exact (hold hqm).1
              · show mI (sI (sI (sI v 51 (pl n m) _) 52 (pl n m) _) 49 7 _) 52 (pl n q) = _
                rw [mI_sI, if_neg (by omega), mI_sI]
                by_cases hqm : q = m
                · rw [if_pos ⟨rfl, by rw [hqm]⟩, hqm]
                · rw [if_neg fun x => hne hqm x.2, mI_sI, if_neg (by omega)]; exact (hold hqm).2.1
              · by_cases hqm : q = m
                · rw [hqm]; exact ch
                · exact (hold hqm).2.2
        · have hb0 : bt n m = 0 := by have := bt_le n m; omega
          have hp1 : pl n (m + 1) = pl n m := by rw [pl_s, hb0]; omega
          refine Or.inl ⟨hmN, (J (m + 1 : Nat), v), ?_, rfl, e2, by show mI v 49 7 = _; rw [hp1]; exact e3, fun q hq hbq => ?_⟩
          · show bX4_choose_8 49 (J g) (J d) (J (n : Nat)) (J m) v = _
            unfold bX4_choose_8
            simp (disch := first | (simp only [SH_sIi, SH_sLi]; assumption) | assumption | (simp only [nN_sI, nN_sL, nN_sR]; assumption) | omega) only [↓s_nm, ↓s_bnd2, ↓s_some, ↓s_suml, ↓s_sumr, ↓s_nz, ↓gi_q, ↓pi_q, ↓ck_q, ↓gi_gs, ↓gr_gs, ↓g_0_0, ↓g_0_1, ↓g_0_2, ↓g_0_3, ↓g_0_4, ↓g_0_5, ↓g_0_6, ↓g_0_7, ↓g_1_0, ↓g_3_0, ↓g_3_3, ↓g_4_0, ↓g_4_1, ↓g_7_0, ↓g_7_1, ↓g_10_0, ↓g_10_1, ↓g_10_2, ↓g_34_0, ↓g_34_1, ↓g_34_2, ↓g_34_3, ↓g_34_4, ↓g_34_5, ↓g_39_2, ↓g_39_3, ↓g_39_4, ↓g_39_5, ↓g_39_6, ↓g_39_7, ↓g_39_8, ↓g_39_9, ↓g_45_0, ↓g_45_1, ↓g_45_2, ↓g_45_4, ↓g_49_0, ↓g_49_1, ↓g_49_2, ↓g_49_3, ↓g_49_4, ↓g_49_5, ↓g_49_6, ↓al_2, ↓al_5, ↓al_6, ↓al_8, ↓al_9, ↓al_11, ↓al_12, ↓al_13, ↓al_35, ↓al_36, ↓al_37, ↓al_38, ↓al_40, ↓al_41, ↓al_42, ↓al_43, ↓al_44, ↓al_46, ↓al_47, ↓al_48, ↓al_50, ↓al_51, ↓al_52, ↓al_53, ↓al_54, ↓as_2, ↓as_5, ↓as_6, ↓as_8, ↓as_9, ↓as_12, ↓as_13, ↓as_35, ↓as_36, ↓as_37, ↓as_38, ↓as_40, ↓as_41, ↓as_42, ↓as_43, ↓as_44, ↓as_46, ↓as_47, ↓as_48, ↓as_50, ↓as_51, ↓as_52, ↓as_53, ↓as_54, ↓gi_0, ↓pi_0, ↓ck_0, ↓gi_1, ↓pi_1, ↓ck_1, ↓gi_3, ↓pi_3, ↓ck_3, ↓gi_4, ↓pi_4, ↓ck_4, ↓gi_7, ↓pi_7, ↓ck_7, ↓gi_10, ↓pi_10, ↓ck_10, ↓gi_34, ↓pi_34, ↓ck_34, ↓gi_39, ↓pi_39, ↓ck_39, ↓gi_45, ↓pi_45, ↓ck_45, ↓gi_49, ↓pi_49, ↓ck_49, j0, j1, j2, j3, j4, j5, j6, j7, j8, j9, j10, j11, j12, j13, j14, j15, j16, j17, j18, j19, j20, j21, j24, j25, j30, j31, j32, j36, j41, j48, j49, j57, j59, j60, j63, j64, j81, j97, j99, j100, j122, j255, j300, j400, j500, j999, j1000, j24000, j_add, j_sub, j_mul, j_neg, j_lt, j_le, j_eq, nI_sI, nR_sI, nN_sI, nI_sR, nR_sR, nN_sR, Int.toNat_natCast, true_and, and_true, false_and, and_false, if_true, if_false, reduceIte, Nat.reduceEqDiff, Option.some.injEq, Prod.mk.injEq, k_of, k_add, k_sub, k_mul, k_neg, lg_ltJ, lg_gtJ, lg_eqJ, b_0, b_J0, b_J1, b_retZ, k0, k1, k2, k3, k10, k19, k20, k30, k40, k999, ↓dayC_b, ↓gsrC_b, ↓tenC_b, ↓zooC_b, ↓isqC_b, Int.add_sub_cancel, not_true, not_false_eq_true, jn1, Bool.false_eq_true, Bool.true_eq_false, reduceCtorEq, a_nq hA1, show (m : Int) < C 55 25 by omega, e3, show ((pl n m : Nat) : Int) < 4 by omega, bit0 n m hn (by omega) hb0, show ¬ ((0 : Int) = 1) by omega]
          · refine e4 q ?_ hbq
            by_cases hqm : q = m
            · subst hqm; omega
            · omega
      · have hpN : pl n (nQ C) = pl n m := by omega
        refine Or.inr ⟨.inl v, ?_, e2, by rw [hpN]; exact e3, fun q hq hbq => ?_⟩
        · show bX4_choose_8 49 (J g) (J d) (J (n : Nat)) (J m) v = _
          unfold bX4_choose_8
          simp (disch := first | (simp only [SH_sIi, SH_sLi]; assumption) | assumption | (simp only [nN_sI, nN_sL, nN_sR]; assumption) | omega) only [↓s_nm, ↓s_bnd2, ↓s_some, ↓s_suml, ↓s_sumr, ↓s_nz, ↓gi_q, ↓pi_q, ↓ck_q, ↓gi_gs, ↓gr_gs, ↓g_0_0, ↓g_0_1, ↓g_0_2, ↓g_0_3, ↓g_0_4, ↓g_0_5, ↓g_0_6, ↓g_0_7, ↓g_1_0, ↓g_3_0, ↓g_3_3, ↓g_4_0, ↓g_4_1, ↓g_7_0, ↓g_7_1, ↓g_10_0, ↓g_10_1, ↓g_10_2, ↓g_34_0, ↓g_34_1, ↓g_34_2, ↓g_34_3, ↓g_34_4, ↓g_34_5, ↓g_39_2, ↓g_39_3, ↓g_39_4, ↓g_39_5, ↓g_39_6, ↓g_39_7, ↓g_39_8, ↓g_39_9, ↓g_45_0, ↓g_45_1, ↓g_45_2, ↓g_45_4, ↓g_49_0, ↓g_49_1, ↓g_49_2, ↓g_49_3, ↓g_49_4, ↓g_49_5, ↓g_49_6, ↓al_2, ↓al_5, ↓al_6, ↓al_8, ↓al_9, ↓al_11, ↓al_12, ↓al_13, ↓al_35, ↓al_36, ↓al_37, ↓al_38, ↓al_40, ↓al_41, ↓al_42, ↓al_43, ↓al_44, ↓al_46, ↓al_47, ↓al_48, ↓al_50, ↓al_51, ↓al_52, ↓al_53, ↓al_54, ↓as_2, ↓as_5, ↓as_6, ↓as_8, ↓as_9, ↓as_12, ↓as_13, ↓as_35, ↓as_36, ↓as_37, ↓as_38, ↓as_40, ↓as_41, ↓as_42, ↓as_43, ↓as_44, ↓as_46, ↓as_47, ↓as_48, ↓as_50, ↓as_51, ↓as_52, ↓as_53, ↓as_54, ↓gi_0, ↓pi_0, ↓ck_0, ↓gi_1, ↓pi_1, ↓ck_1, ↓gi_3, ↓pi_3, ↓ck_3, ↓gi_4, ↓pi_4, ↓ck_4, ↓gi_7, ↓pi_7, ↓ck_7, ↓gi_10, ↓pi_10, ↓ck_10, ↓gi_34, ↓pi_34, ↓ck_34, ↓gi_39, ↓pi_39, ↓ck_39, ↓gi_45, ↓pi_45, ↓ck_45, ↓gi_49, ↓pi_49, ↓ck_49, j0, j1, j2, j3, j4, j5, j6, j7, j8, j9, j10, j11, j12, j13, j14, j15, j16, j17, j18, j19, j20, j21, j24, j25, j30, j31, j32, j36, j41, j48, j49, j57, j59, j60, j63, j64, j81, j97, j99, j100, j122, j255, j300, j400, j500, j999, j1000, j24000, j_add, j_sub, j_mul, j_neg, j_lt, j_le, j_eq, nI_sI, nR_sI, nN_sI, nI_sR, nR_sR, nN_sR, Int.toNat_natCast, true_and, and_true, false_and, and_false, if_true, if_false, reduceIte, Nat.reduceEqDiff, Option.some.injEq, Prod.mk.injEq, k_of, k_add, k_sub, k_mul, k_neg, lg_ltJ, lg_gtJ, lg_eqJ, b_0, b_J0, b_J1, b_retZ, k0, k1, k2, k3, k10, k19, k20, k30, k40, k999, ↓dayC_b, ↓gsrC_b, ↓tenC_b, ↓zooC_b, ↓isqC_b, Int.add_sub_cancel, not_true, not_false_eq_true, jn1, Bool.false_eq_true, Bool.true_eq_false, reduceCtorEq, a_nq hA1, show (m : Int) < C 55 25 by omega, e3, show ¬ (((pl n m : Nat) : Int) < 4) by omega]
        · refine e4 q ?_ hbq
          by_cases hqm : q < m
          · exact hqm
          · exfalso
            have h1 := pl_mono n (a := m) (b := q) (by omega)
            have h2 := pl_lt n hq hbq
            omega
    · obtain rfl : m = nQ C := by omega
      refine Or.inr ⟨.inl v, ?_, e2, e3, e4⟩
      show bX4_choose_8 49 (J g) (J d) (J (n : Nat)) (J (nQ C : Nat)) v = _
      unfold bX4_choose_8
      simp (disch := first | (simp only [SH_sIi, SH_sLi]; assumption) | assumption | (simp only [nN_sI, nN_sL, nN_sR]; assumption) | omega) only [↓s_nm, ↓s_bnd2, ↓s_some, ↓s_suml, ↓s_sumr, ↓s_nz, ↓gi_q, ↓pi_q, ↓ck_q, ↓gi_gs, ↓gr_gs, ↓g_0_0, ↓g_0_1, ↓g_0_2, ↓g_0_3, ↓g_0_4, ↓g_0_5, ↓g_0_6, ↓g_0_7, ↓g_1_0, ↓g_3_0, ↓g_3_3, ↓g_4_0, ↓g_4_1, ↓g_7_0, ↓g_7_1, ↓g_10_0, ↓g_10_1, ↓g_10_2, ↓g_34_0, ↓g_34_1, ↓g_34_2, ↓g_34_3, ↓g_34_4, ↓g_34_5, ↓g_39_2, ↓g_39_3, ↓g_39_4, ↓g_39_5, ↓g_39_6, ↓g_39_7, ↓g_39_8, ↓g_39_9, ↓g_45_0, ↓g_45_1, ↓g_45_2, ↓g_45_4, ↓g_49_0, ↓g_49_1, ↓g_49_2, ↓g_49_3, ↓g_49_4, ↓g_49_5, ↓g_49_6, ↓al_2, ↓al_5, ↓al_6, ↓al_8, ↓al_9, ↓al_11, ↓al_12, ↓al_13, ↓al_35, ↓al_36, ↓al_37, ↓al_38, ↓al_40, ↓al_41, ↓al_42, ↓al_43, ↓al_44, ↓al_46, ↓al_47, ↓al_48, ↓al_50, ↓al_51, ↓al_52, ↓al_53, ↓al_54, ↓as_2, ↓as_5, ↓as_6, ↓as_8, ↓as_9, ↓as_12, ↓as_13, ↓as_35, ↓as_36, ↓as_37, ↓as_38, ↓as_40, ↓as_41, ↓as_42, ↓as_43, ↓as_44, ↓as_46, ↓as_47, ↓as_48, ↓as_50, ↓as_51, ↓as_52, ↓as_53, ↓as_54, ↓gi_0, ↓pi_0, ↓ck_0, ↓gi_1, ↓pi_1, ↓ck_1, ↓gi_3, ↓pi_3, ↓ck_3, ↓gi_4, ↓pi_4, ↓ck_4, ↓gi_7, ↓pi_7, ↓ck_7, ↓gi_10, ↓pi_10, ↓ck_10, ↓gi_34, ↓pi_34, ↓ck_34, ↓gi_39, ↓pi_39, ↓ck_39, ↓gi_45, ↓pi_45, ↓ck_45, ↓gi_49, ↓pi_49, ↓ck_49, j0, j1, j2, j3, j4, j5, j6, j7, j8, j9, j10, j11, j12, j13, j14, j15, j16, j17, j18, j19, j20, j21, j24, j25, j30, j31, j32, j36, j41, j48, j49, j57, j59, j60, j63, j64, j81, j97, j99, j100, j122, j255, j300, j400, j500, j999, j1000, j24000, j_add, j_sub, j_mul, j_neg, j_lt, j_le, j_eq, nI_sI, nR_sI, nN_sI, nI_sR, nR_sR, nN_sR, Int.toNat_natCast, true_and, and_true, false_and, and_false, if_true, if_false, reduceIte, Nat.reduceEqDiff, Option.some.injEq, Prod.mk.injEq, k_of, k_add, k_sub, k_mul, k_neg, lg_ltJ, lg_gtJ, lg_eqJ, b_0, b_J0, b_J1, b_retZ, k0, k1, k2, k3, k10, k19, k20, k30, k40, k999, ↓dayC_b, ↓gsrC_b, ↓tenC_b, ↓zooC_b, ↓isqC_b, Int.add_sub_cancel, not_true, not_false_eq_true, jn1, Bool.false_eq_true, Bool.true_eq_false, reduceCtorEq, a_nq hA1, show ¬ (((nQ C : Nat) : Int) < C 55 25) by omega]
end MEND
