/-! rules: runs of the machine; what holds of its draft -/
def pNx (L : Nat) (y : Nat → Int) : Nat → Nat → Nat
  | 0, p => p
  | n + 1, p => pNx L y n (nxt L y p)
/-- the machine comes from p, S to q, T -/
def St (L : Nat) (y : Nat → Int) (p : Nat) (S : Sp) (q : Nat) (T : Sp) : Prop := ∃ N, q = pNx L y N p ∧ T = itA L y N p S
def Dr (S : Sp) : Prop := S 3 1 = 0 → S 3 2 = -1 ∧ (∀ t, t < 11 → 0 ≤ S 56 t ∧ S 56 t ≤ 1000 ∧ 0 ≤ S 57 t ∧ S 57 t ≤ 1000) ∧ (S 55 0 = 0 ∨ S 55 0 = 1) ∧ (S 55 1 = 0 ∨ S 55 1 = 1) ∧ (1 ≤ S 55 4 ∧ S 55 4 ≤ 99) ∧ (S 62 4 = 0 → S 3 7 ≠ 4 ∧ S 55 2 = -1 ∧ S 55 3 = -1) ∧ (S 62 4 = 1 → S 3 7 ≠ 4 → 1 ≤ S 55 2 ∧ S 55 2 ≤ 30 ∧ 1 ≤ S 55 3 ∧ S 55 3 ≤ 99) ∧ (S 3 7 = 4 → (1 ≤ S 3 8 → 1 ≤ S 55 2 ∧ S 55 2 ≤ 30) ∧ (2 ≤ S 3 8 → 1 ≤ S 55 3 ∧ S 55 3 ≤ 99)) ∧ (S 3 11 ≠ 0 → S 3 7 = -1)
section ZST
variable {L p q r : Nat} {y : Nat → Int} {S T U : Sp} {f s v z : Int}
theorem st_rfl : St L y p S p S := ⟨0, rfl, rfl⟩
theorem st_one : St L y p S (nxt L y p) (stp L y p S) := ⟨1, rfl, rfl⟩
theorem pNx_add : ∀ (N M p : Nat), pNx L y (N + M) p = pNx L y M (pNx L y N p) := by
  intro N
  induction N with
  | zero => intro M p; rw [Nat.zero_add]; rfl
  | succ N ih => intro M p; rw [Nat.succ_add]; exact ih M (nxt L y p)
theorem itA_add : ∀ (N M p : Nat) (S : Sp), itA L y (N + M) p S = itA L y M (pNx L y N p) (itA L y N p S) := by
  intro N
  induction N with
  | zero => intro M p S; rw [Nat.zero_add]; rfl
  | succ N ih => intro M p S; rw [Nat.succ_add]; exact ih M (nxt L y p) (stp L y p S)
theorem st_tr (h1 : St L y p S q T) (h2 : St L y q T r U) : St L y p S r U := by
  obtain ⟨N, rfl, rfl⟩ := h1
  obtain ⟨M, rfl, rfl⟩ := h2
  exact ⟨N + M, (pNx_add N M p).symm, (itA_add N M p S).symm⟩
theorem pNx_le : ∀ (N p : Nat), p ≤ L → p ≤ pNx L y N p ∧ pNx L y N p ≤ L := by
  intro N
  induction N with
  | zero => intro p hp; exact ⟨Nat.le_refl _, hp⟩
  | succ N ih =>
    intro p hp
    have h1 := stk_le (y := y) hp
    have h2 := nxt_le (y := y) hp
    have h3 := ih (nxt L y p) h2.2.1
    exact ⟨show p ≤ pNx L y N (nxt L y p) by omega, h3.2⟩
theorem wf_it (hL : L ≤ 500) : ∀ (N p : Nat) (S : Sp), p ≤ L → Wf L p S → Wf L (pNx L y N p) (itA L y N p S) := by
  intro N
  induction N with
  | zero => intro p S hp h; exact h
  | succ N ih => intro p S hp h; exact ih _ _ (nxt_le (y := y) hp).2.1 (wf_stp hp hL h)
theorem st_le (h : St L y p S q T) (hp : p ≤ L) : p ≤ q ∧ q ≤ L := by
  obtain ⟨N, rfl, rfl⟩ := h
  exact pNx_le N p hp
theorem st_wf (h : St L y p S q T) (hp : p ≤ L) (hL : L ≤ 500) (hw : Wf L p S) : Wf L q T := by
  obtain ⟨N, rfl, rfl⟩ := h
  exact wf_it hL N p S hp hw
theorem dr_ft (hf : f ≠ 0) : Dr (ft S f s) := fun x => absurd (show f = 0 from x) hf
theorem dr_56 {j : Nat} (h : Dr S) (h7 : S 3 7 ≠ 4) (h11 : S 3 11 = 0) (h1 : 0 ≤ v) (h2 : v ≤ 1000) : Dr (ud (ud S 56 j v) 3 8 z) := by
  intro hk
  obtain ⟨d1, d2, d3, d4, d5, d6, d7, d8, d9⟩ := h hk
  refine ⟨d1, fun t ht => ?_, d3, d4, d5, d6, d7, fun x => absurd (show S 3 7 = 4 from x) h7, d9⟩
  have := d2 t ht
  show 0 ≤ ud S 56 j v 56 t ∧ ud S 56 j v 56 t ≤ 1000 ∧ 0 ≤ S 57 t ∧ S 57 t ≤ 1000
  rw [ud_at]
  by_cases c : 56 = 56 ∧ t = j
  · rw [if_pos c]; omega
  · rw [if_neg c]; exact this
theorem dr_57 {j : Nat} (h : Dr S) (h7 : S 3 7 ≠ 4) (h11 : S 3 11 = 0) (h1 : 0 ≤ v) (h2 : v ≤ 1000) : Dr (ud (ud S 57 j v) 3 8 z) := by
  intro hk
  obtain ⟨d1, d2, d3, d4, d5, d6, d7, d8, d9⟩ := h hk
  refine ⟨d1, fun t ht => ?_, d3, d4, d5, d6, d7, fun x => absurd (show S 3 7 = 4 from x) h7, d9⟩
  have := d2 t ht
  show 0 ≤ S 56 t ∧ S 56 t ≤ 1000 ∧ 0 ≤ ud S 57 j v 57 t ∧ ud S 57 j v 57 t ≤ 1000
  rw [ud_at]
  by_cases c : 57 = 57 ∧ t = j
  · rw [if_pos c]; omega
  · rw [if_neg c]; exact this
theorem dr_stp (hw : Wf L p S) (h : Dr S) : Dr (stp L y p S) := by
  obtain ⟨a1, a2, a3, a4, a5, a6, a7, a8⟩ := hw
  have kr := key_rng L y p
  unfold stp
  by_cases c0 : S 3 11 = 0
  · rw [if_neg (fun x => x c0)]
    by_cases c1 : S 3 7 = -1
    · rw [if_pos c1]
      by_cases c2 : tkn L y p = 0
      · rw [if_pos c2]
        intro hk
        obtain ⟨d1, d2, d3, d4, d5, d6, d7, d8, d9⟩ := h hk
        exact ⟨d1, d2, d3, d4, d5, d6, d7, d8, fun _ => c1⟩
      · rw [if_neg c2]
        by_cases c3 : key L y p = -1
        · rw [if_pos c3]; exact dr_ft (by omega)
        · rw [if_neg c3]
          by_cases c4 : S 62 (key L y p).toNat = 1
          · rw [if_pos c4]; exact dr_ft (by omega)
          · rw [if_neg c4]
            intro hk
            obtain ⟨d1, d2, d3, d4, d5, d6, d7, d8, d9⟩ := h hk
            refine ⟨d1, d2, d3, d4, d5, fun x => ?_, fun x x2 => ?_, fun _ => ⟨fun x => absurd (show (1 : Int) ≤ 0 from x) (by omega), fun x => absurd (show (2 : Int) ≤ 0 from x) (by omega)⟩, fun x => absurd c0 x⟩
            · have x : ud S 62 (key L y p).toNat 1 62 4 = 0 := x
              rw [ud_at] at x
              by_cases e : key L y p = 4
              · rw [if_pos ⟨rfl, by omega⟩] at x; omega
              · rw [if_neg (fun z => e (by have := z.2; omega))] at x
                exact ⟨e, (d6 x).2⟩
            · have x : ud S 62 (key L y p).toNat 1 62 4 = 1 := x
              have x2 : key L y p ≠ 4 := x2
              rw [ud_at, if_neg (fun z => x2 (by have := z.2; omega))] at x
              exact d7 x (by omega)
    · rw [if_neg c1]
      by_cases c2 : S 3 8 < nar (S 3 7)
      · rw [if_pos c2]
        have ar := af_rng L y p (S 3 7) (S 3 8)
        by_cases c3 : af L y p (S 3 7) (S 3 8) = 0
        · rw [if_pos c3]
          have a60 := (a6 (by omega)).1
          have hc : S 3 7 = 0 ∨ S 3 7 = 1 ∨ S 3 7 = 2 ∨ S 3 7 = 3 ∨ S 3 7 = 4 ∨ S 3 7 = 5 := by omega
          rcases hc with e | e | e | e | e | e
          · rw [e] at c3 ⊢
            have c3 : (if tkn L y p = 3 then (if 0 ≤ vl L y p ∧ vl L y p ≤ 1000 then (0 : Int) else 2) else 1) = 0 := c3
            have hv : 0 ≤ vl L y p ∧ vl L y p ≤ 1000 := by
              (repeat' split at c3) <;> first | assumption | omega
            exact dr_56 (j := (S 3 8).toNat) h (by omega) c0 hv.1 hv.2
          · rw [e] at c3 ⊢
            have c3 : (if tkn L y p = 3 then (if 0 ≤ vl L y p ∧ vl L y p ≤ 1000 then (0 : Int) else 2) else 1) = 0 := c3
            have hv : 0 ≤ vl L y p ∧ vl L y p ≤ 1000 := by
              (repeat' split at c3) <;> first | assumption | omega
            exact dr_57 (j := (S 3 8).toNat) h (by omega) c0 hv.1 hv.2
          · rw [e]
            intro hk
            obtain ⟨d1, d2, d3, d4, d5, d6, d7, d8, d9⟩ := h hk
            refine ⟨d1, d2, ?_, d4, d5, d6, d7, fun x => absurd (show S 3 7 = 4 from x) (by omega), d9⟩
            show (if isw L y p 7 then (1 : Int) else 0) = 0 ∨ (if isw L y p 7 then (1 : Int) else 0) = 1
            split <;> omega
          · rw [e]
            intro hk
            obtain ⟨d1, d2, d3, d4, d5, d6, d7, d8, d9⟩ := h hk
            refine ⟨d1, d2, d3, ?_, d5, d6, d7, fun x => absurd (show S 3 7 = 4 from x) (by omega), d9⟩
            show (if isw L y p 9 then (1 : Int) else 0) = 0 ∨ (if isw L y p 9 then (1 : Int) else 0) = 1
            split <;> omega
          · rw [e] at c2
            have c2 : S 3 8 < 2 := c2
            by_cases c8 : S 3 8 = 0
            · rw [e, c8] at c3 ⊢
              have c3 : (if tkn L y p = 3 then (if 1 ≤ vl L y p ∧ vl L y p ≤ 30 then (0 : Int) else 2) else 1) = 0 := c3
              have hv : 1 ≤ vl L y p ∧ vl L y p ≤ 30 := by
                (repeat' split at c3) <;> first | assumption | omega
              intro hk
              obtain ⟨d1, d2, d3, d4, d5, d6, d7, d8, d9⟩ := h hk
              exact ⟨d1, d2, d3, d4, d5, fun x => absurd e (d6 x).1, fun _ x => absurd e x, fun _ => ⟨fun _ => hv, fun x => absurd (show (2 : Int) ≤ 0 + 1 from x) (by omega)⟩, d9⟩
            · rw [e, show S 3 8 = 1 by omega] at c3 ⊢
              have c3 : (if tkn L y p = 3 then (if 1 ≤ vl L y p ∧ vl L y p ≤ 99 then (0 : Int) else 2) else 1) = 0 := c3
              have hv : 1 ≤ vl L y p ∧ vl L y p ≤ 99 := by
                (repeat' split at c3) <;> first | assumption | omega
              intro hk
              obtain ⟨d1, d2, d3, d4, d5, d6, d7, d8, d9⟩ := h hk
              exact ⟨d1, d2, d3, d4, d5, fun x => absurd e (d6 x).1, fun _ x => absurd e x, fun _ => ⟨fun _ => (d8 e).1 (by omega), fun _ => hv⟩, d9⟩
          · rw [e] at c3 ⊢
            have c3 : (if tkn L y p = 3 then (if 1 ≤ vl L y p ∧ vl L y p ≤ 99 then (0 : Int) else 2) else 1) = 0 := c3
            have hv : 1 ≤ vl L y p ∧ vl L y p ≤ 99 := by
              (repeat' split at c3) <;> first | assumption | omega
            intro hk
            obtain ⟨d1, d2, d3, d4, d5, d6, d7, d8, d9⟩ := h hk
            exact ⟨d1, d2, d3, d4, hv, d6, d7, fun x => absurd (show S 3 7 = 4 from x) (by omega), d9⟩
        · rw [if_neg c3]; exact dr_ft c3
      · rw [if_neg c2]
        by_cases c3 : tkn L y p = 4
        · rw [if_pos c3]
          intro hk
          obtain ⟨d1, d2, d3, d4, d5, d6, d7, d8, d9⟩ := h hk
          refine ⟨d1, d2, d3, d4, d5, fun x => ⟨show (-1 : Int) ≠ 4 by omega, (d6 x).2⟩, fun x _ => ?_, fun x => absurd (show (-1 : Int) = 4 from x) (by omega), fun x => absurd c0 x⟩
          by_cases e : S 3 7 = 4
          · rw [e] at c2
            have c2 : ¬ (S 3 8 < 2) := c2
            have d8 := d8 e
            have e1 := d8.1 (by omega)
            have e2 := d8.2 (by omega)
            exact ⟨e1.1, e1.2, e2.1, e2.2⟩
          · exact d7 x e
        · rw [if_neg c3]; exact dr_ft (by omega)
  · rw [if_pos c0]; exact h
theorem dr_it (hL : L ≤ 500) : ∀ (N p : Nat) (S : Sp), p ≤ L → Wf L p S → Dr S → Dr (itA L y N p S) := by
  intro N
  induction N with
  | zero => intro p S hp hw h; exact h
  | succ N ih => intro p S hp hw h; exact ih _ _ (nxt_le (y := y) hp).2.1 (wf_stp hp hL hw) (dr_stp hw h)
theorem dr_S0 (z : Int) : Dr (S0 z) := fun _ => ⟨rfl, fun t ht => by
    show 0 ≤ (10 - (t : Int)) * (10 - (t : Int)) ∧ (10 - (t : Int)) * (10 - (t : Int)) ≤ 1000 ∧ 0 ≤ (t : Int) * (t : Int) ∧ (t : Int) * (t : Int) ≤ 1000
    have : t = 0 ∨ t = 1 ∨ t = 2 ∨ t = 3 ∨ t = 4 ∨ t = 5 ∨ t = 6 ∨ t = 7 ∨ t = 8 ∨ t = 9 ∨ t = 10 := by omega
    rcases this with rfl | rfl | rfl | rfl | rfl | rfl | rfl | rfl | rfl | rfl | rfl <;> decide, Or.inl rfl, Or.inl rfl, ⟨show (1 : Int) ≤ 1 by omega, show (1 : Int) ≤ 99 by omega⟩, fun _ => ⟨show (-1 : Int) ≠ 4 by omega, rfl, rfl⟩, fun x => absurd (show (0 : Int) = 1 from x) (by omega), fun x => absurd (show (-1 : Int) = 4 from x) (by omega), fun x => absurd rfl x⟩
end ZST
