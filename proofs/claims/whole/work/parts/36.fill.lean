/-! costs: the class's rows of one guesser on one question -/
section FILL
variable {C D : Sp} {n : Nat} {u u' : Mem} {β : Type} {g q c : Nat} {d a b t : Int} {P : Nat → Nat → Prop}
theorem RCa_fr (f : Fr P u u') (hP : ∀ a k, P a k → 34 ≤ a ∧ a ≤ 44) (h : RCa C D u) : RCa C D u' := RCa_eq h fun a k ha => f.2.2 a k fun hp => by have := hP a k hp; omega
theorem RCq_fr (f : Fr P u u') (hP : ∀ a k, P a k → 34 ≤ a ∧ a ≤ 44) (hC : OkC C) (h : RCq C u) : RCq C u' := RCq_eq h (fun a k h1 h2 => f.2.2 a k fun hp => by have := hP a k hp; omega) hC.q.2
theorem RCg_fr (f : Fr P u u') (hP : ∀ a k, P a k → 34 ≤ a ∧ a ≤ 44) (h : RCg C u) : RCg C u' := RCg_eq h f.1 (fun a k h1 => f.2.2 a k fun hp => by have := hP a k hp; omega) fun a k _ => f.2.1 a k
/-- the places of one cell of rows -/
def PR (c : Nat) (a k : Nat) : Prop := (a = 35 ∨ a = 36) ∧ k = c
theorem PR_le {c a k : Nat} (h : PR c a k) : 34 ≤ a ∧ a ≤ 44 := by unfold PR at h; omega
theorem fill_go (hS : SH u) (hC : OkC C) (hA : RCa C D u) (hQ : RCq C u) (hG : RCg C u) (hg : g < 20) (hq : q < nQ C) (hc : c < 400) : ∀ (m F : Nat) (e N0 S0 : Int) (v : Mem), m ≤ nG C → m < F → Fr (PR c) u v → C 63 q ≤ e → e ≤ 1000 → mI v 35 c = J N0 → mI v 36 c = J S0 →
    ∃ (e' : Int) (v' : Mem), lp (fun s : Option Nat × Int32 × Mem => bX1_fillRows_42 34 (J c) (14 + q) s.1 s.2.1 s.2.2) F (cel (lastD C g q 1000 m), J e, v) = some (J e', v') ∧ C 63 q ≤ e' ∧ e' ≤ e ∧ Fr (PR c) u v' ∧ mI v' 35 c = J (N0 + (e - e')) ∧ mI v' 36 c = J (S0 + sm (fun d => cost C q (tenOf C (lastD C g q d m))) e' (e - e').toNat) ∧ (∀ d, e' ≤ d → d < e → lastD C g q d m ≠ none) ∧ ∀ d, d < e' → lastD C g q d m = none := by
  have hqq := hC.q
  intro m
  induction m using Nat.strongRecOn with
  | _ m ih =>
    intro F e N0 S0 v hm hF hv he1 he2 hN hT
    obtain ⟨F, rfl⟩ : ∃ F', F = F' + 1 := ⟨F - 1, by omega⟩
    have sv := hv.SH hS
    have hA' := RCa_fr hv (fun _ _ => PR_le) hA
    have hQ' := RCq_fr hv (fun _ _ => PR_le) hC hQ
    have hG' := RCg_fr hv (fun _ _ => PR_le) hG
    have oq := okq hC hq
    cases hL : lastD C g q 1000 m with
    | none =>
      have e0 : ∀ d, d < e → lastD C g q d m = none := by
        intro d hd
        rw [lastD_none] at hL ⊢
        intro k hk hx
        exact hL k hk ⟨hx.1, hx.2.1, by omega⟩
      refine ⟨e, v, rfl, he1, Int.le_refl _, hv, by rw [hN]; congr 1; omega, ?_, fun d h1 h2 => by omega, e0⟩
      rw [hT, show (e - e).toNat = 0 by omega]
      show J S0 = J (S0 + 0)
      congr 1; omega
    | some i =>
      obtain ⟨w1, w2, w3, w4, w5⟩ := lastD_some _ hL
      have ok := okg hC (k := i) (by omega)
      have ei : (C 68 i).toNat = q := by omega
      rw [ei] at ok
      obtain ⟨f0, f1, f2, f3, f4⟩ := hG'.2.1 i (by omega)
      rw [ei, show (C 67 i).toNat = g by omega] at f4
      have hmN : 88 + i < mN v := by have := hG'.1; omega
      have w6 : ∀ d k, d ≤ 1000 → i < k → k < m → ¬ (C 67 k = g ∧ C 68 k = q ∧ C 69 k ≤ d) := fun d k hd k1 k2 k3 => w5 k k1 k2 ⟨k3.1, k3.2.1, by omega⟩
      have w7 : ∀ d, d < C 69 i → lastD C g q d m = lastD C g q d i := by
        intro d hd
        refine lastD_skip m (by omega) fun k k1 k2 k3 => ?_
        by_cases k4 : k = i
        · subst k4; omega
        · exact w6 d k (by omega) (by omega) k2 k3
      have w8 : ∀ d, C 69 i ≤ d → d ≤ 1000 → lastD C g q d m = some i := fun d h1 h2 => lastD_at w1 ⟨w2, w3, h1⟩ (fun k k1 k2 => w6 d k h2 k1 k2)
      have hb : bX1_fillRows_42 34 (J c) (14 + q) (some (88 + i)) (J e) v = if C 69 i < e then some (.inl (cel (lastD C g q 1000 i), J (C 69 i), sI (sI v 35 c (J (N0 + (e - C 69 i)))) 36 c (J (S0 + (e - C 69 i) * cost C q (C 70 i))))) else some (.inl (cel (lastD C g q 1000 i), J e, v)) := by
        unfold bX1_fillRows_42
        rw [if_neg (by simp)]
        have n35 : ¬ (88 + i = 35) := by omega
        have n36 : ¬ (88 + i = 36) := by omega
        by_cases w : C 69 i < e
        · simp (disch := first | assumption | (simp only [SH_sI, SH_sL]; assumption) | (simp only [mN_sI, mN_sL, mN_sR]; assumption) | omega) only [↓s_nm, ↓s_bnd2, ↓s_some, ↓s_suml, ↓s_sumr, ↓s_nz, ↓gi_q, ↓pi_q, ↓ck_q, ↓gi_gs, ↓gr_gs, ↓g_0_0, ↓g_0_1, ↓g_0_2, ↓g_0_3, ↓g_0_4, ↓g_0_5, ↓g_0_6, ↓g_0_7, ↓g_1_0, ↓g_3_0, ↓g_3_3, ↓g_4_0, ↓g_4_1, ↓g_7_0, ↓g_7_1, ↓g_10_0, ↓g_10_1, ↓g_10_2, ↓g_34_0, ↓g_34_1, ↓g_34_2, ↓g_34_3, ↓g_34_4, ↓g_34_5, ↓g_39_2, ↓g_39_3, ↓g_39_4, ↓g_39_5, ↓g_39_6, ↓g_39_7, ↓g_39_8, ↓g_39_9, ↓g_45_0, ↓g_45_1, ↓g_45_2, ↓g_45_4, ↓g_49_0, ↓g_49_1, ↓g_49_2, ↓g_49_3, ↓g_49_4, ↓g_49_5, ↓g_49_6, ↓al_2, ↓al_5, ↓al_6, ↓al_8, ↓al_9, ↓al_11, ↓al_12, ↓al_13, ↓al_35, ↓al_36, ↓al_37, ↓al_38, ↓al_40, ↓al_41, ↓al_42, ↓al_43, ↓al_44, ↓al_46, ↓al_47, ↓al_48, ↓al_50, ↓al_51, ↓al_52, ↓al_53, ↓al_54, ↓as_2, ↓as_5, ↓as_6, ↓as_8, ↓as_9, ↓as_12, ↓as_13, ↓as_35, ↓as_36, ↓as_37, ↓as_38, ↓as_40, ↓as_41, ↓as_42, ↓as_43, ↓as_44, ↓as_46, ↓as_47, ↓as_48, ↓as_50, ↓as_51, ↓as_52, ↓as_53, ↓as_54, ↓gi_0, ↓pi_0, ↓ck_0, ↓gi_1, ↓pi_1, ↓ck_1, ↓gi_3, ↓pi_3, ↓ck_3, ↓gi_4, ↓pi_4, ↓ck_4, ↓gi_7, ↓pi_7, ↓ck_7, ↓gi_10, ↓pi_10, ↓ck_10, ↓gi_34, ↓pi_34, ↓ck_34, ↓gi_39, ↓pi_39, ↓ck_39, ↓gi_45, ↓pi_45, ↓ck_45, ↓gi_49, ↓pi_49, ↓ck_49, j0, j1, j2, j3, j4, j5, j6, j7, j8, j9, j10, j11, j12, j13, j14, j15, j16, j17, j18, j19, j20, j21, j24, j25, j30, j31, j32, j36, j41, j48, j49, j57, j59, j60, j63, j64, j81, j97, j99, j100, j122, j255, j300, j400, j500, j999, j1000, j24000, j_add, j_sub, j_mul, j_neg, j_lt, j_le, j_eq, mI_sI, mR_sI, mN_sI, mI_sR, mR_sR, mN_sR, Int.toNat_natCast, true_and, and_true, false_and, and_false, if_true, if_false, reduceIte, Nat.reduceEqDiff, Option.some.injEq, Prod.mk.injEq, k_of, k_add, k_sub, k_mul, k_neg, lg_lt, lg_gt, lg_eq, b_0, b_J0, b_J1, b_retZ, k0, k1, k2, k3, k10, k19, k20, k30, k40, k999, ↓dayC_b, ↓gsrC_b, ↓tenC_b, ↓zooC_b, ↓isqC_b, Int.add_sub_cancel, not_true, not_false_eq_true, jn1, f2, f3, f4, q_2 hQ' q hq, w, ↓costC, ↓addC, hN, hT, n35, n36]
        · simp (disch := first | assumption | (simp only [SH_sI, SH_sL]; assumption) | (simp only [mN_sI, mN_sL, mN_sR]; assumption) | omega) only [↓s_nm, ↓s_bnd2, ↓s_some, ↓s_suml, ↓s_sumr, ↓s_nz, ↓gi_q, ↓pi_q, ↓ck_q, ↓gi_gs, ↓gr_gs, ↓g_0_0, ↓g_0_1, ↓g_0_2, ↓g_0_3, ↓g_0_4, ↓g_0_5, ↓g_0_6, ↓g_0_7, ↓g_1_0, ↓g_3_0, ↓g_3_3, ↓g_4_0, ↓g_4_1, ↓g_7_0, ↓g_7_1, ↓g_10_0, ↓g_10_1, ↓g_10_2, ↓g_34_0, ↓g_34_1, ↓g_34_2, ↓g_34_3, ↓g_34_4, ↓g_34_5, ↓g_39_2, ↓g_39_3, ↓g_39_4, ↓g_39_5, ↓g_39_6, ↓g_39_7, ↓g_39_8, ↓g_39_9, ↓g_45_0, ↓g_45_1, ↓g_45_2, ↓g_45_4, ↓g_49_0, ↓g_49_1, ↓g_49_2, ↓g_49_3, ↓g_49_4, ↓g_49_5, ↓g_49_6, ↓al_2, ↓al_5, ↓al_6, ↓al_8, ↓al_9, ↓al_11, ↓al_12, ↓al_13, ↓al_35, ↓al_36, ↓al_37, ↓al_38, ↓al_40, ↓al_41, ↓al_42, ↓al_43, ↓al_44, ↓al_46, ↓al_47, ↓al_48, ↓al_50, ↓al_51, ↓al_52, ↓al_53, ↓al_54, ↓as_2, ↓as_5, ↓as_6, ↓as_8, ↓as_9, ↓as_12, ↓as_13, ↓as_35, ↓as_36, ↓as_37, ↓as_38, ↓as_40, ↓as_41, ↓as_42, ↓as_43, ↓as_44, ↓as_46, ↓as_47, ↓as_48, ↓as_50, ↓as_51, ↓as_52, ↓as_53, ↓as_54, ↓gi_0, ↓pi_0, ↓ck_0, ↓gi_1, ↓pi_1, ↓ck_1, ↓gi_3, ↓pi_3, ↓ck_3, ↓gi_4, ↓pi_4, ↓ck_4, ↓gi_7, ↓pi_7, ↓ck_7, ↓gi_10, ↓pi_10, ↓ck_10, ↓gi_34, ↓pi_34, ↓ck_34, ↓gi_39, ↓pi_39, ↓ck_39, ↓gi_45, ↓pi_45, ↓ck_45, ↓gi_49, ↓pi_49, ↓ck_49, j0, j1, j2, j3, j4, j5, j6, j7, j8, j9, j10, j11, j12, j13, j14, j15, j16, j17, j18, j19, j20, j21, j24, j25, j30, j31, j32, j36, j41, j48, j49, j57, j59, j60, j63, j64, j81, j97, j99, j100, j122, j255, j300, j400, j500, j999, j1000, j24000, j_add, j_sub, j_mul, j_neg, j_lt, j_le, j_eq, mI_sI, mR_sI, mN_sI, mI_sR, mR_sR, mN_sR, Int.toNat_natCast, true_and, and_true, false_and, and_false, if_true, if_false, reduceIte, Nat.reduceEqDiff, Option.some.injEq, Prod.mk.injEq, k_of, k_add, k_sub, k_mul, k_neg, lg_lt, lg_gt, lg_eq, b_0, b_J0, b_J1, b_retZ, k0, k1, k2, k3, k10, k19, k20, k30, k40, k999, ↓dayC_b, ↓gsrC_b, ↓tenC_b, ↓zooC_b, ↓isqC_b, Int.add_sub_cancel, not_true, not_false_eq_true, jn1, f2, f4, w]
      by_cases w : C 69 i < e
      · obtain ⟨e', v', x1, x2, x3, x4, x5, x6, x7, x8⟩ := ih i w1 F (C 69 i) (N0 + (e - C 69 i)) (S0 + (e - C 69 i) * cost C q (C 70 i)) (sI (sI v 35 c (J (N0 + (e - C 69 i)))) 36 c (J (S0 + (e - C 69 i) * cost C q (C 70 i)))) (by omega) (by omega) ((hv.sI ⟨Or.inl rfl, rfl⟩).sI ⟨Or.inr rfl, rfl⟩) (by omega) (by omega) (by simp [mI_sI]) (by simp [mI_sI])
        refine ⟨e', v', ?_, x2, by omega, x4, by rw [x5]; congr 1; omega, ?_, fun d h1 h2 => ?_, fun d h1 => by rw [w7 d (by omega)]; exact x8 d h1⟩
        · rw [lp]
          show ((bX1_fillRows_42 34 (J c) (14 + q) (some (88 + i)) (J e) v).bind _) = _
          rw [hb, if_pos w]
          exact x1
        · rw [x6]
          congr 1
          rw [show (e - e').toNat = (C 69 i - e').toNat + (e - C 69 i).toNat by omega, sm_split, show e' + ((C 69 i - e').toNat : Int) = C 69 i by omega, sm_const (c := cost C q (C 70 i)) (e - C 69 i).toNat (fun d h1 h2 => by rw [w8 d h1 (by omega)]; rfl), show (((e - C 69 i).toNat : Nat) : Int) = e - C 69 i by omega]
          rw [sm_congr (f' := fun d => cost C q (tenOf C (lastD C g q d m))) (f := fun d => cost C q (tenOf C (lastD C g q d i))) _ fun d h1 h2 => by rw [w7 d (by omega)]]
          omega
        · by_cases hd : d < C 69 i
          · rw [w7 d hd]; exact x7 d h1 hd
          · rw [w8 d (by omega) (by omega)]; simp
      · obtain ⟨e', v', x1, x2, x3, x4, x5, x6, x7, x8⟩ := ih i w1 F e N0 S0 v (by omega) (by omega) hv he1 he2 hN hT
        refine ⟨e', v', ?_, x2, x3, x4, x5, ?_, fun d h1 h2 => by rw [w7 d (by omega)]; exact x7 d h1 h2, fun d h1 => by rw [w7 d (by omega)]; exact x8 d h1⟩
        · rw [lp]
          show ((bX1_fillRows_42 34 (J c) (14 + q) (some (88 + i)) (J e) v).bind _) = _
          rw [hb, if_neg w]
          exact x1
        · rw [x6, sm_congr (f' := fun d => cost C q (tenOf C (lastD C g q d m))) (f := fun d => cost C q (tenOf C (lastD C g q d i))) _ fun d h1 h2 => by rw [w7 d (by omega)]]
end FILL
