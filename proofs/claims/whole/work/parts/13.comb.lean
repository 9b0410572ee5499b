/-! the words of the functions that stand for methods, and their eliminations -/
def nm {α β : Type} (a : α) (f : α → Option β) : Option β := f a
theorem nm_elim {α β : Type} {a : α} {f : α → Option β} {y : β} (h : nm a f = some y) : ∃ x, x = a ∧ f x = some y := ⟨a, rfl, h⟩
def bnd2 {α β γ : Type} (o : Option (α × β)) (f : α → β → Option γ) : Option γ := o.bind fun p => f p.1 p.2
theorem bnd2_some {α β γ : Type} {o : Option (α × β)} {f : α → β → Option γ} {y : γ} (h : bnd2 o f = some y) : ∃ a b, o = some (a, b) ∧ f a b = some y := by
  obtain ⟨p, h1, h2⟩ := bnd_some h
  exact ⟨p.1, p.2, h1, h2⟩
theorem bnd2_mk {α β γ : Type} (a : α) (b : β) (f : α → β → Option γ) : bnd2 (some (a, b)) f = f a b := rfl
theorem if_elim {c : Prop} [Decidable c] {α : Type} {a b : Option α} {y : α} (h : (if c then a else b) = some y) : (c ∧ a = some y) ∨ (¬ c ∧ b = some y) := by
  by_cases hc : c
  · rw [if_pos hc] at h; exact Or.inl ⟨hc, h⟩
  · rw [if_neg hc] at h; exact Or.inr ⟨hc, h⟩
def chk (u : Mem) (r : Option Nat) (c : Nat) : Option Nat := r.bind fun a => if okc u a c then some a else none
theorem chk_elim {u : Mem} {r : Option Nat} {c b : Nat} (h : chk u r c = some b) : r = some b ∧ okc u b c = true := by
  obtain ⟨a, rfl, h⟩ := bnd_some h
  obtain ⟨h1, rfl⟩ := ite_some h
  exact ⟨rfl, h1⟩
def retZ (v : Int32) : Option Int32 := if v = 0 ∨ v = 1 then some v else none
theorem retZ_elim {v y : Int32} (h : retZ v = some y) : y = v ∧ (v = 0 ∨ v = 1) := by
  unfold retZ at h
  rcases if_elim h with ⟨h1, h2⟩ | ⟨h1, h2⟩
  · exact ⟨(Option.some.inj h2).symm, h1⟩
  · cases h2
/-- a divisor that isn't 0 -/
def nz32 (y : Int32) : Option Int32 := if y = 0 then none else some y
theorem nz32_elim {y z : Int32} (h : nz32 y = some z) : z = y ∧ ¬ y = 0 := by
  unfold nz32 at h
  rcases if_elim h with ⟨-, h2⟩ | ⟨h1, h2⟩
  · cases h2
  · exact ⟨(Option.some.inj h2).symm, h1⟩
def nz64 (y : Int64) : Option Int64 := if y = 0 then none else some y
theorem nz64_elim {y z : Int64} (h : nz64 y = some z) : z = y ∧ ¬ y = 0 := by
  unfold nz64 at h
  rcases if_elim h with ⟨-, h2⟩ | ⟨h1, h2⟩
  · cases h2
  · exact ⟨(Option.some.inj h2).symm, h1⟩
/-- a loop: go on with .inl, end with .inr -/
def lp {S R : Type} (f : S → Option (S ⊕ R)) : Nat → S → Option R
  | 0, _ => none
  | n + 1, s => (f s).bind fun r => match r with
    | .inl s' => lp f n s'
    | .inr r => some r
def FU : Nat := 100000
theorem lp_run {S R : Type} {f : S → Option (S ⊕ R)} {P : S → Prop} {E : R → Prop} (hb : ∀ s y, f s = some y → (∀ s', y = .inl s' → P s') → (∀ r, y = .inr r → E r) → P s) : ∀ (n : Nat) (s : S) (r : R), lp f n s = some r → E r → P s := by
  intro n
  induction n with
  | zero => intro s r h; cases h
  | succ n ih =>
    intro s r h hE
    rw [lp] at h
    obtain ⟨y, h1, h2⟩ := bnd_some h
    refine hb s y h1 (fun s' e => ?_) (fun r' e => ?_)
    · subst e; exact ih s' r h2 hE
    · subst e; cases h2; exact hE
def outI (r : Int32 ⊕ Nat) : Outcome := match r with
  | .inl v => .returned (some (.int v))
  | .inr a => .threw a
def outV (r : Unit ⊕ Nat) : Outcome := match r with
  | .inl _ => .returned none
  | .inr a => .threw a
def sumE {α β γ : Type} (r : α ⊕ β) (f : α → Option γ) (g : β → Option γ) : Option γ := match r with
  | .inl a => f a
  | .inr b => g b
theorem sumE_l {α β γ : Type} {a : α} {f : α → Option γ} {g : β → Option γ} {y : γ} (h : sumE (.inl a) f g = some y) : f a = some y := h
theorem sumE_r {α β γ : Type} {b : β} {f : α → Option γ} {g : β → Option γ} {y : γ} (h : sumE (.inr b) f g = some y) : g b = some y := h
theorem cat_sum (rest : List Value) : (rest.map fun v => v.category).sum ≤ 2 * rest.length := by
  induction rest with
  | nil => exact Nat.le_refl _
  | cons v l ih =>
    rw [List.map_cons, List.sum_cons, List.length_cons]
    rcases lv_cat v with h | h <;> rw [h] <;> omega
theorem cat_le8 {rest : List Value} (h : rest.length ≤ 4) : (rest.map fun v => v.category).sum ≤ 8 := Nat.le_trans (cat_sum rest) (by omega)
section RN7
variable {l : Launch} {G : Gt} {M : MI} {d pc : Nat} {lv lv2 : List (Nat × Value)} {st : List Value} {u u' : Mem} {o : Outcome}
theorem rn_topi {x y : Int32} (h : y = x) (k : Rn l G M d pc lv (.int y :: st) u o u') : Rn l G M d pc lv (.int x :: st) u o u' := h ▸ k
theorem rn_topl {x y : Int64} (h : y = x) (k : Rn l G M d pc lv (.long y :: st) u o u') : Rn l G M d pc lv (.long x :: st) u o u' := h ▸ k
theorem rn_topr {x y : Option Nat} (h : y = x) (k : Rn l G M d pc lv (rv y :: st) u o u') : Rn l G M d pc lv (rv x :: st) u o u' := h ▸ k
theorem lv_pick_gq (G : Gt) (lv : List (Nat × Value)) (ks : List Nat) : lv_pick (lv.map (gq G)) ks = (lv_pick lv ks).map (gq G) := by
  unfold lv_pick
  rw [List.map_filterMap]
  congr 1
  funext k
  rw [List.getElem?_map]
theorem rn_sub (ks : List Nat) (h : lv_pick lv ks = lv2) (k : Rn l G M d pc lv2 st u o u') : Rn l G M d pc lv st u o u' :=
  Rn.same k fun _ _ _ _ _ _ _ _ _ _ _ _ _ ls _ _ hl _ _ k => k ls (lv_sub hl ks (by rw [lv_pick_gq, h]))
end RN7
