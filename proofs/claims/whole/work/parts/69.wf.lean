/-! rules: what the machine keeps -/
section WF
variable {L p : Nat} {y : Nat → Int} {f s : Int} {S : Sp}
theorem nxt_gt (hp : p ≤ L) (h : tkn L y p ≠ 0) : p < nxt L y p := by
  have h1 := stk_le (y := y) hp
  have h2 := nxt_le (y := y) hp
  have : kd L y p ≠ 0 := fun e => h (by unfold tkn; rw [if_neg (fun x => by omega)]; exact e)
  have := h2.2.2 this
  omega
theorem wf_ft (hp : p ≤ L) (hL : L ≤ 500) (h : Wf L p S) (h1 : 1 ≤ f) (h2 : f ≤ 3) : Wf L (nxt L y p) (ft S f (stk L y p)) := by
  obtain ⟨a1, a2, a3, a4, a5, a6, a7, a8⟩ := h
  have hs := stk_le (y := y) hp
  have hn := nxt_le (y := y) hp
  exact ⟨Or.inr rfl, fun x => absurd (show (1 : Int) = 0 from x) (by omega), ⟨show 0 ≤ f by omega, show f ≤ 3 from h2⟩, ⟨show (-1 : Int) ≤ (stk L y p : Nat) by omega, show ((stk L y p : Nat) : Int) ≤ 500 by omega⟩, a5, a6, ⟨a7.1, show S 3 9 ≤ ((nxt L y p : Nat) : Int) by omega⟩, a8⟩
end WF
