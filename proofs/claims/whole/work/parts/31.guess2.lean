/-! guess: the guess comes -/
section GUESS2
variable {C D : Sp} {n : Nat} {u : Mem} {β : Type} {g q : Nat} {d a b : Int}
theorem s_nwc {m : Nat} {f : Nat → Mem → Option β} (h : mN u = 88 + m) (hm : m < 900000) : bnd2 (nwc u 3 5) f = f (88 + m) (sN u) := by
  unfold nwc
  rw [h, KF_g, decide_eq_true (by omega)]
  rfl
def gsU (u : Mem) (m g q : Nat) (d t : Int) (o : Option Nat) : Mem := sR (sR (sI (sI (sI (sI (sN u) (88 + m) 0 (J g)) (88 + m) 1 (J q)) (88 + m) 2 (J d)) (88 + m) 3 (J t)) (88 + m) 4 o) 12 (g * 20 + q) (some (88 + m))
theorem gsU_I {m : Nat} {t : Int} {o : Option Nat} (h : mN u = 88 + m) : ∀ a k, a ≠ 88 + m → mI (gsU u m g q d t o) a k = mI u a k := by
  intro a k ha
  unfold gsU
  simp only [mI_sR, mI_sI, mI_sN, h, ha, false_and, if_false]
theorem gsU_R {m : Nat} {t : Int} {o : Option Nat} (h : mN u = 88 + m) : ∀ a k, a ≠ 88 + m → ¬ (a = 12 ∧ k = g * 20 + q) → mR (gsU u m g q d t o) a k = mR u a k := by
  intro a k ha hb
  unfold gsU
  simp only [mR_sR, mR_sI, mR_sN, h, ha, hb, false_and, if_false]
theorem gsU_N {m : Nat} {t : Int} {o : Option Nat} : mN (gsU u m g q d t o) = mN u + 1 := rfl
theorem gsU_S {m : Nat} {t : Int} {o : Option Nat} (hS : SH u) (h : mN u = 88 + m) (hm : m < 300) : SH (gsU u m g q d t o) := by
  unfold gsU
  refine SH_sR (SH_sR ?_ (by omega)) (by omega)
  exact SH_sN hS (by omega)
theorem addG_1 {m : Nat} {t : Int} (hS : SH u) (hC : OkC C) (hA : RCa C D u) (hG : RCg C u) (hm : nG C = m) (hm3 : m < 300) (hg : g < 20) (hq : q < 20) : fX0_addGuess 10 (J g) (J q) (J d) (J t) u = (lp (fun s : Int32 × Mem => bX0_addGuess_46 10 (J q) (J d) (J m) (88 + m) s.1 s.2) FU (J m, gsU u m g q d t (cel (lastD C g q 1000 m)))).bind fun r => jX0_addGuess_89 10 (J q) (J m) (some (88 + m)) r.1 r.2 := by
  have hgg := hC.g
  have hmN : mN u = 88 + m := by rw [hG.1, hm]
  have hSN : SH (sN u) := SH_sN hS (by omega)
  have hk : okc (sN u) (88 + m) 3 = true := ok_g (by rw [mN_sN]; omega)
  have e : ((g : Int) * 20 + (q : Int)).toNat = g * 20 + q := by omega
  have eL := hG.2.2.1 g q hg hq
  rw [hm] at eL
  have eR : mR (sN u) 12 (g * 20 + q) = cel (lastD C g q 1000 m) := by rw [mR_sN, if_neg (by omega), eL]
  have hS7 : SH (sR (sI (sI (sI (sI (sN u) (88 + m) 0 (J g)) (88 + m) 1 (J q)) (88 + m) 2 (J d)) (88 + m) 3 (J t)) (88 + m) 4 (cel (lastD C g q 1000 m))) := SH_sR hSN (by omega)
  have hk7 : okc (sR (sI (sI (sI (sI (sN u) (88 + m) 0 (J g)) (88 + m) 1 (J q)) (88 + m) 2 (J d)) (88 + m) 3 (J t)) (88 + m) 4 (cel (lastD C g q 1000 m))) (88 + m) 3 = true := hk
  have hg1 : C 55 26 = m := by omega
  unfold fX0_addGuess fX10_cell fX3_init
  rw [gi_10 hS, a_ng hA, hg1, s_nwc hmN (by omega), g_10_1 hSN, s_some, j20, j_mul, j_add, al_12 hSN (by omega) (by omega), e, eR, s_pI hk, s_pI (u := sI (sN u) _ _ _) hk, s_pI (u := sI (sI (sN u) _ _ _) _ _ _) hk, s_pI (u := sI (sI (sI (sN u) _ _ _) _ _ _) _ _ _) hk, s_pR (u := sI (sI (sI (sI (sN u) _ _ _) _ _ _) _ _ _) _ _ _) hk, s_some, g_10_1 hS7, s_some, as_12 hS7 (by omega) (by omega) hk7, e]
  rfl
theorem gsU_new {m : Nat} {t : Int} {o : Option Nat} : mI (gsU u m g q d t o) (88 + m) 0 = J g ∧ mI (gsU u m g q d t o) (88 + m) 1 = J q ∧ mI (gsU u m g q d t o) (88 + m) 2 = J d ∧ mI (gsU u m g q d t o) (88 + m) 3 = J t ∧ mR (gsU u m g q d t o) (88 + m) 4 = o ∧ mR (gsU u m g q d t o) 12 (g * 20 + q) = some (88 + m) := by
  have h : ¬ (88 + m = 12) := by omega
  unfold gsU
  simp [mI_sR, mI_sI, mR_sR, h]
/-- the list of guesses by day, with one more -/
def insL (l : List Nat) (p m : Nat) : List Nat := l.take p ++ m :: l.drop p
theorem insL_get {l : List Nat} {p m : Nat} (hp : p ≤ l.length) (j : Nat) : (insL l p m)[j]? = if j < p then l[j]? else if j = p then some m else l[j - 1]? := by
  unfold insL
  have e : (l.take p).length = p := by rw [List.length_take]; omega
  by_cases h1 : j < p
  · rw [if_pos h1, List.getElem?_append_left (by omega), List.getElem?_take, if_pos h1]
  · rw [if_neg h1, List.getElem?_append_right (by omega), e]
    by_cases h2 : j = p
    · rw [if_pos h2, show j - p = 0 by omega]; rfl
    · rw [if_neg h2, show j - p = (j - p - 1) + 1 by omega, List.getElem?_cons_succ, List.getElem?_drop]
      congr 1
      omega
theorem insL_perm {l : List Nat} {p m : Nat} (h : l.Perm (List.range m)) : (insL l p m).Perm (List.range (m + 1)) := by
  unfold insL
  refine (List.perm_middle).trans ?_
  rw [List.take_append_drop, List.range_succ]
  exact (List.Perm.cons m h).trans (List.perm_append_singleton m (List.range m)).symm
theorem addG_2 {m : Nat} {t : Int} (hS : SH u) (hC : OkC C) (hA : RCa C D u) (hQ : RCq C u) (hG : RCg C u) (hm : nG C = m) (hm3 : m < 300) (hg : g < 20) (hq : q < nQ C) (h1 : 0 ≤ d) (h2 : d ≤ 999) :
    ∃ u1, fX0_addGuess 10 (J g) (J q) (J d) (J t) u = some (J m, u1) ∧ SH u1 ∧ mN u1 = 88 + (m + 1) ∧ (∀ a k, a ≠ 88 + m → ¬ (a = 14 + q ∧ k = 4) → ¬ (a = 10 ∧ (k = 4 ∨ k = 5)) → mI u1 a k = mI u a k) ∧ (∀ a k, a ≠ 88 + m → ¬ (a = 12 ∧ k = g * 20 + q) → a ≠ 13 → mR u1 a k = mR u a k) ∧
      mI u1 (88 + m) 0 = J g ∧ mI u1 (88 + m) 1 = J q ∧ mI u1 (88 + m) 2 = J d ∧ mI u1 (88 + m) 3 = J t ∧ mR u1 (88 + m) 4 = cel (lastD C g q 1000 m) ∧ mR u1 12 (g * 20 + q) = some (88 + m) ∧ mI u1 (14 + q) 4 = J (cntQ C q + 1) ∧ mI u1 10 4 = J (m + 1) ∧ mI u1 10 5 = mI u 10 5 + J 1 ∧
      ∃ l : List Nat, l.Perm (List.range (m + 1)) ∧ (∀ i j x y : Nat, i < j → l[i]? = some x → l[j]? = some y → (if x = m then d else C 69 x) ≤ (if y = m then d else C 69 y)) ∧ ∀ p i, l[p]? = some i → mR u1 13 p = some (88 + i) := by
  have hgg := hC.g
  have hqq := hC.q
  have hmN : mN u = 88 + m := by rw [hG.1, hm]
  have hg1 : C 55 26 = m := by omega
  obtain ⟨l, l1, l2, l3⟩ := hG.2.2.2
  rw [hm] at l1
  have hll : l.length = m := by rw [l1.length_eq, List.length_range]
  have hlt : ∀ i, i ∈ l → i < m := fun i hi => List.mem_range.mp (l1.mem_iff.mp hi)
  obtain ⟨u0, eu0⟩ : ∃ u0, u0 = gsU u m g q d t (cel (lastD C g q 1000 m)) := ⟨_, rfl⟩
  have s1 : SH u0 := by rw [eu0]; exact gsU_S hS hmN hm3
  have s2 : mN u0 = 88 + (m + 1) := by rw [eu0, gsU_N]; omega
  have s3 : ∀ a k, a ≠ 88 + m → mI u0 a k = mI u a k := by rw [eu0]; exact gsU_I hmN
  have s4 : ∀ a k, a ≠ 88 + m → ¬ (a = 12 ∧ k = g * 20 + q) → mR u0 a k = mR u a k := by rw [eu0]; exact gsU_R hmN
  obtain ⟨w0, w1, w2, w3, w4, w5⟩ := gsU_new (u := u) (g := g) (q := q) (d := d) (m := m) (t := t) (o := cel (lastD C g q 1000 m))
  rw [← eu0] at w0 w1 w2 w3 w4 w5
  obtain ⟨r, er, p, p1, p2, p3, p4, p5, p6, p7, p8⟩ := addG_loop (C := C) (u := u0) (l := l) (m := m) (d := d) (t5 := J q) (t6 := J m) (t7 := 88 + m) s1 (by omega) (by omega) hll hlt (fun i hi => by
      have ok := okg hC (k := i) (by omega)
      rw [s3 _ _ (by omega), (hG.2.1 i (by omega)).2.2.1]; exact ⟨rfl, ok.2.2.1.1, ok.2.2.1.2⟩) (fun p i hp => by rw [s4 _ _ (by omega) (by omega)]; exact l3 p i hp) h1 h2
  obtain ⟨r1, v⟩ := r
  simp only at p2 p3 p4 p5 p6
  subst p2
  have sv : SH v := SH_same s1 p4 fun a k ha => p5 a k (by omega)
  have sv2 : SH (sR v 13 p (some (88 + m))) := SH_sR sv (by omega)
  have hk : okc v (88 + m) 3 = true := ok_g (by omega)
  have ea := addG_1 (u := u) (g := g) (q := q) (d := d) (t := t) hS hC hA hG hm hm3 hg (by omega)
  rw [← eu0, er] at ea
  refine ⟨sI (sI (sI (sR v 13 p (some (88 + m))) (14 + q) 4 (J (cntQ C q + 1))) 10 4 (J (m + 1))) 10 5 (mI u 10 5 + J 1), ?_, sv2, ?_, ?_, ?_, ?_, ?_, ?_, ?_, ?_, ?_, ?_, ?_, ?_, insL l p m, ?_, ?_, ?_⟩
  · rw [ea]
    show jX0_addGuess_89 10 (J q) (J m) (some (88 + m)) (J p) v = _
    unfold jX0_addGuess_89
    have f4 : mI v (14 + q) 4 = J (cntQ C q) := by rw [p3, s3 _ _ (by omega)]; exact q_4 hQ q hq
    have f5 : mI v 10 4 = J m := by rw [p3, s3 _ _ (by omega), a_ng hA, hg1]
    have f6 : mI v 10 5 = mI u 10 5 := by rw [p3, s3 _ _ (by omega)]
    have n1 : ¬ (10 = 14 + q) := by omega
    simp (disch := first | assumption | (simp only [SH_sI, SH_sL]; assumption) | omega) only [↓s_nm, ↓s_bnd2, ↓s_some, ↓s_suml, ↓s_sumr, ↓s_nz, ↓gi_q, ↓pi_q, ↓ck_q, ↓gi_gs, ↓gr_gs, ↓g_0_0, ↓g_0_1, ↓g_0_2, ↓g_0_3, ↓g_0_4, ↓g_0_5, ↓g_0_6, ↓g_0_7, ↓g_1_0, ↓g_3_0, ↓g_3_3, ↓g_4_0, ↓g_4_1, ↓g_7_0, ↓g_7_1, ↓g_10_0, ↓g_10_1, ↓g_10_2, ↓g_34_0, ↓g_34_1, ↓g_34_2, ↓g_34_3, ↓g_34_4, ↓g_34_5, ↓g_39_2, ↓g_39_3, ↓g_39_4, ↓g_39_5, ↓g_39_6, ↓g_39_7, ↓g_39_8, ↓g_39_9, ↓g_45_0, ↓g_45_1, ↓g_45_2, ↓g_45_4, ↓g_49_0, ↓g_49_1, ↓g_49_2, ↓g_49_3, ↓g_49_4, ↓g_49_5, ↓g_49_6, ↓al_2, ↓al_5, ↓al_6, ↓al_8, ↓al_9, ↓al_11, ↓al_12, ↓al_13, ↓al_35, ↓al_36, ↓al_37, ↓al_38, ↓al_40, ↓al_41, ↓al_42, ↓al_43, ↓al_44, ↓al_46, ↓al_47, ↓al_48, ↓al_50, ↓al_51, ↓al_52, ↓al_53, ↓al_54, ↓as_2, ↓as_5, ↓as_6, ↓as_8, ↓as_9, ↓as_12, ↓as_13, ↓as_35, ↓as_36, ↓as_37, ↓as_38, ↓as_40, ↓as_41, ↓as_42, ↓as_43, ↓as_44, ↓as_46, ↓as_47, ↓as_48, ↓as_50, ↓as_51, ↓as_52, ↓as_53, ↓as_54, ↓gi_0, ↓pi_0, ↓ck_0, ↓gi_1, ↓pi_1, ↓ck_1, ↓gi_3, ↓pi_3, ↓ck_3, ↓gi_4, ↓pi_4, ↓ck_4, ↓gi_7, ↓pi_7, ↓ck_7, ↓gi_10, ↓pi_10, ↓ck_10, ↓gi_34, ↓pi_34, ↓ck_34, ↓gi_39, ↓pi_39, ↓ck_39, ↓gi_45, ↓pi_45, ↓ck_45, ↓gi_49, ↓pi_49, ↓ck_49, j0, j1, j2, j3, j4, j5, j6, j7, j8, j9, j10, j11, j12, j13, j14, j15, j16, j17, j18, j19, j20, j21, j24, j25, j30, j31, j32, j36, j41, j48, j49, j57, j59, j60, j63, j64, j81, j97, j99, j100, j122, j255, j300, j400, j500, j999, j1000, j24000, j_add, j_sub, j_mul, j_neg, j_lt, j_le, j_eq, mI_sI, mR_sI, mN_sI, mI_sR, mR_sR, mN_sR, Int.toNat_natCast, true_and, and_true, false_and, and_false, if_true, if_false, reduceIte, Nat.reduceEqDiff, Option.some.injEq, Prod.mk.injEq, k_of, k_add, k_sub, k_mul, k_neg, lg_lt, lg_gt, lg_eq, b_0, b_J0, b_J1, b_retZ, k0, k1, k2, k3, k10, k19, k20, k30, k40, k999, ↓dayC_b, ↓gsrC_b, ↓tenC_b, ↓zooC_b, ↓isqC_b, Int.add_sub_cancel, not_true, not_false_eq_true, jn1, f4, f5, f6, n1]
  · show mN v = _; omega
  · intro a k n1 n2 n3
    simp only [mI_sI, mI_sR]
    rw [if_neg (by omega), if_neg (by omega), if_neg (by omega), p3, s3 a k n1]
  · intro a k n1 n2 n3
    simp only [mR_sI, mR_sR]
    rw [if_neg (by omega), p5 a k n3, s4 a k n1 n2]
  · simp only [mI_sI, mI_sR]
    rw [if_neg (by omega), if_neg (by omega), if_neg (by omega), p3, w0]
  · simp only [mI_sI, mI_sR]
    rw [if_neg (by omega), if_neg (by omega), if_neg (by omega), p3, w1]
  · simp only [mI_sI, mI_sR]
    rw [if_neg (by omega), if_neg (by omega), if_neg (by omega), p3, w2]
  · simp only [mI_sI, mI_sR]
    rw [if_neg (by omega), if_neg (by omega), if_neg (by omega), p3, w3]
  · simp only [mR_sI, mR_sR]
    rw [if_neg (by omega), p5 _ _ (by omega), w4]
  · simp only [mR_sI, mR_sR]
    rw [if_neg (by omega), p5 _ _ (by omega), w5]
  · simp only [mI_sI, mI_sR]
    rw [if_neg (by omega), if_neg (by omega), if_pos ⟨trivial, trivial⟩]
  · simp only [mI_sI, mI_sR]
    rw [if_neg (by omega), if_pos ⟨trivial, trivial⟩]
  · simp only [mI_sI, mI_sR]
    rw [if_pos ⟨trivial, trivial⟩]
  · exact insL_perm l1
  · intro i j x y hij hx hy
    rw [insL_get (by omega)] at hx hy
    have hsort : ∀ a b x y : Nat, a < b → l[a]? = some x → l[b]? = some y → C 69 x ≤ C 69 y := by
      intro a b x y hab hx hy
      obtain ⟨ha, rfl⟩ := List.getElem?_eq_some_iff.mp hx
      obtain ⟨hb, rfl⟩ := List.getElem?_eq_some_iff.mp hy
      exact List.pairwise_iff_getElem.mp l2 a b ha hb hab
    have hne : ∀ a x : Nat, l[a]? = some x → ¬ (x = m) := fun a x hx => by have := hlt x (List.mem_of_getElem? hx); omega
    by_cases hi : i < p
    · rw [if_pos hi] at hx
      rw [if_neg (hne _ _ hx)]
      by_cases hj : j < p
      · rw [if_pos hj] at hy
        rw [if_neg (hne _ _ hy)]
        exact hsort i j x y hij hx hy
      · rw [if_neg hj] at hy
        by_cases hj2 : j = p
        · rw [if_pos hj2] at hy
          cases hy
          rw [if_pos rfl]
          by_cases hi2 : i = p - 1
          · subst hi2; exact p8 x (by omega) hx
          · obtain ⟨y, hy⟩ : ∃ y, l[p - 1]? = some y := ⟨l[p - 1]'(by omega), List.getElem?_eq_getElem _⟩
            have := hsort i (p - 1) x y (by omega) hx hy
            have := p8 y (by omega) hy
            omega
        · rw [if_neg hj2] at hy
          rw [if_neg (hne _ _ hy)]
          exact hsort i (j - 1) x y (by omega) hx hy
    · rw [if_neg hi] at hx
      rw [if_neg (by omega), if_neg (by omega)] at hy
      rw [if_neg (hne _ _ hy)]
      by_cases hi2 : i = p
      · rw [if_pos hi2] at hx
        cases hx
        rw [if_pos rfl]
        have := p7 (j - 1) y (by omega) hy
        omega
      · rw [if_neg hi2] at hx
        rw [if_neg (hne _ _ hx)]
        exact hsort (i - 1) (j - 1) x y (by omega) hx hy
  · intro j i hj
    rw [insL_get (by omega)] at hj
    simp only [mR_sI, mR_sR]
    by_cases h1 : j < p
    · rw [if_pos h1] at hj
      have hjl : j < l.length := (List.getElem?_eq_some_iff.mp hj).1
      rw [if_neg (by omega), p6 j (by omega), if_neg (by omega), s4 _ _ (by omega) (by omega)]
      exact l3 j i hj
    · rw [if_neg h1] at hj
      by_cases h2 : j = p
      · rw [if_pos h2] at hj
        cases hj
        rw [if_pos ⟨trivial, h2⟩]
      · rw [if_neg h2] at hj
        have hjl : j - 1 < l.length := (List.getElem?_eq_some_iff.mp hj).1
        rw [if_neg (by omega), p6 j (by omega), if_pos (by omega), s4 _ _ (by omega) (by omega)]
        exact l3 (j - 1) i hj
end GUESS2
