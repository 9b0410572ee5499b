/-! rules: what the machine keeps -/
section WF
variable {L p : Nat} {y : Nat → Int} {f s : Int} {S : Sp}
theorem nxt_gt (hp : p ≤ L) (h : tkn L y p ≠ 0) : p < nxt L y p := by
  have h1 := stk_le (y := y) hp
  have h2 := nxt_le (y := y) hp
  have : kd L y p ≠ 0 := fun e => h (by unfold tkn; rw [if_neg (fun x => by omega)]; exact e)
  have := h2.2.2 this
  omega
theorem wf_ft (hp : p ≤ L) (hL : L ≤ 500) (h : Wf L p S) (h1 : 1 ≤ f) (h2 : f ≤ 3) : Wf L (nxt L y p) (ft S f (stk L y p)) := by
  obtain ⟨a1, a2, a3, a4, a5, a6, a7, a8⟩ := h
  have hs := stk_le (y := y) hp
  have hn := nxt_le (y := y) hp
  exact ⟨Or.inr rfl, fun x => absurd (show (1 : Int) = 0 from x) (by omega), ⟨show 0 ≤ f by omega, show f ≤ 3 from h2⟩, ⟨show (-1 : Int) ≤ (stk L y p : Nat) by omega, show ((stk L y p : Nat) : Int) ≤ 500 by omega⟩, a5, a6, ⟨a7.1, show S 3 9 ≤ ((nxt L y p : Nat) : Int) by omega⟩, a8⟩
theorem put_n (S : Sp) (k j v : Int) (a x : Nat) (h : a = 3 ∨ a = 62) : put S k j v a x = S a x := by
  unfold put
  (repeat' split) <;> (rw [ud_at, if_neg (by omega)])
theorem af_rng (L : Nat) (y : Nat → Int) (p : Nat) (k j : Int) : 0 ≤ af L y p k j ∧ af L y p k j ≤ 2 := by
  unfold af
  (repeat' split) <;> omega
theorem nar_pos (k : Int) : 1 ≤ nar k := by
  unfold nar
  (repeat' split) <;> omega
theorem wf_stp (hp : p ≤ L) (hL : L ≤ 500) (h : Wf L p S) : Wf L (nxt L y p) (stp L y p S) := by
  have h0 := h
  obtain ⟨a1, a2, a3, a4, a5, a6, a7, a8⟩ := h
  have hs := stk_le (y := y) hp
  have hn := nxt_le (y := y) hp
  have kr := key_rng L y p
  unfold stp
  by_cases c0 : S 3 11 = 0
  · rw [if_neg (fun x => x c0)]
    by_cases c1 : S 3 7 = -1
    · rw [if_pos c1]
      by_cases c2 : tkn L y p = 0
      · rw [if_pos c2]
        exact ⟨Or.inr rfl, fun x => absurd (show (1 : Int) = 0 from x) (by omega), a3, a4, a5, a6, ⟨a7.1, show S 3 9 ≤ ((nxt L y p : Nat) : Int) by omega⟩, a8⟩
      · rw [if_neg c2]
        by_cases c3 : key L y p = -1
        · rw [if_pos c3]; exact wf_ft hp hL h0 (by omega) (by omega)
        · rw [if_neg c3]
          by_cases c4 : S 62 (key L y p).toNat = 1
          · rw [if_pos c4]; exact wf_ft hp hL h0 (by omega) (by omega)
          · rw [if_neg c4]
            have np := nar_pos (key L y p)
            refine ⟨a1, a2, a3, a4, ⟨show -1 ≤ key L y p by omega, show key L y p ≤ 5 by omega⟩, fun _ => ⟨show (0 : Int) ≤ 0 by omega, show 0 ≤ nar (key L y p) by omega⟩, ⟨a7.1, show S 3 9 ≤ ((nxt L y p : Nat) : Int) by omega⟩, fun k => ?_⟩
            rw [ud_at, if_neg (by omega), ud_at, if_neg (by omega), ud_at]
            by_cases e : k = (key L y p).toNat
            · rw [if_pos ⟨rfl, e⟩]; exact Or.inr rfl
            · rw [if_neg (fun x => e x.2)]; exact a8 k
    · rw [if_neg c1]
      by_cases c2 : S 3 8 < nar (S 3 7)
      · rw [if_pos c2]
        have ar := af_rng L y p (S 3 7) (S 3 8)
        by_cases c3 : af L y p (S 3 7) (S 3 8) = 0
        · rw [if_pos c3]
          unfold Wf
          simp only [ud_at, put_n _ _ _ _ 3 _ (Or.inl rfl), put_n _ _ _ _ 62 _ (Or.inr rfl)]
          refine ⟨a1, a2, a3, a4, a5, fun _ => ⟨?_, ?_⟩, ⟨a7.1, ?_⟩, fun k => a8 k⟩
          · show 0 ≤ S 3 8 + 1
            have := (a6 (by omega)).1
            omega
          · show S 3 8 + 1 ≤ nar (S 3 7)
            omega
          · show S 3 9 ≤ ((nxt L y p : Nat) : Int)
            omega
        · rw [if_neg c3]; exact wf_ft hp hL h0 (by omega) (by omega)
      · rw [if_neg c2]
        by_cases c3 : tkn L y p = 4
        · rw [if_pos c3]
          have g := nxt_gt (y := y) hp (by omega)
          exact ⟨a1, a2, a3, a4, ⟨show (-1 : Int) ≤ -1 by omega, show (-1 : Int) ≤ 5 by omega⟩, fun x => absurd (show (0 : Int) ≤ -1 from x) (by omega), ⟨show 0 ≤ S 3 9 + 1 by omega, show S 3 9 + 1 ≤ ((nxt L y p : Nat) : Int) by omega⟩, a8⟩
        · rw [if_neg c3]; exact wf_ft hp hL h0 (by omega) (by omega)
  · rw [if_pos c0]
    exact ⟨a1, a2, a3, a4, a5, a6, ⟨a7.1, by omega⟩, a8⟩
end WF
