/-! mend: the search as leaves of a tree -/
def updF (f : Nat → Int) (q : Nat) (t : Int) : Nat → Int := fun x => if x = q then t else f x
def pl (n : Nat) : Nat → Nat
  | 0 => 0
  | q + 1 => pl n q + bt n q
theorem pl_s (n q : Nat) : pl n (q + 1) = pl n q + bt n q := rfl
theorem pl_mono (n : Nat) {a b : Nat} (h : a ≤ b) : pl n a ≤ pl n b := by
  induction h with
  | refl => exact Nat.le_refl _
  | step _ ih => rw [pl_s]; omega
theorem pl_lt (n : Nat) {a b : Nat} (h : a < b) (hb : bt n a = 1) : pl n a < pl n b := by
  have := pl_mono n (a := a + 1) (b := b) h
  rw [pl_s] at this
  omega
theorem pl_inj (n : Nat) {a b : Nat} (ha : bt n a = 1) (hb : bt n b = 1) (h : pl n a = pl n b) : a = b := by
  by_cases h1 : a < b
  · have := pl_lt n h1 ha; omega
  · by_cases h2 : b < a
    · have := pl_lt n h2 hb; omega
    · omega
def cq (n : Nat) : Nat → Nat → Nat
  | 0, _ => 0
  | m + 1, o => if bt n m = 1 ∧ pl n m = o then m else cq n m o
theorem cq_spec (n : Nat) : ∀ m o : Nat, o < pl n m → cq n m o < m ∧ bt n (cq n m o) = 1 ∧ pl n (cq n m o) = o := by
  intro m
  induction m with
  | zero => intro o h; exact absurd h (Nat.not_lt_zero _)
  | succ m ih =>
    intro o h
    rw [cq]
    by_cases hx : bt n m = 1 ∧ pl n m = o
    · rw [if_pos hx]; exact ⟨by omega, hx.1, hx.2⟩
    · rw [if_neg hx]
      rw [pl_s] at h
      have hle := bt_le n m
      obtain ⟨h1, h2, h3⟩ := ih o (by omega)
      exact ⟨by omega, h2, h3⟩
/-- tie k ties q to an earlier question of the set -/
def td (D : Sp) (n q k : Nat) : Bool := decide (max (D 71 k) (D 72 k) = q) && (bt n (min (D 71 k) (D 72 k)).toNat == 1)
def bad (D : Sp) (n : Nat) (f : Nat → Int) (q : Nat) : Bool := anyN (fun k => td D n q k && brk (D 73 k) (f (D 71 k).toNat) (f (D 72 k).toNat)) (nT D)
abbrev Lf : Type := Int × (Nat → Int)
def ab (z : Int) : Int := (z.natAbs : Nat)
def lvs (D : Sp) (n N : Nat) (h : Nat → Int) : Nat → (Nat → Int) → Int → List Lf
  | 0, f, s => [(s, f)]
  | k + 1, f, s => if bt n (N - (k + 1)) = 1 then (List.range 11).flatMap (fun t => if bad D n (updF f (N - (k + 1)) (t : Nat)) (N - (k + 1)) = true then [] else lvs D n N h k (updF f (N - (k + 1)) (t : Nat)) (s + ab ((t : Nat) - h (N - (k + 1))))) else lvs D n N h k f s
def brn (D : Sp) (n N : Nat) (h : Nat → Int) (k : Nat) (f : Nat → Int) (s : Int) (t : Nat) : List Lf := if bad D n (updF f (N - (k + 1)) (t : Nat)) (N - (k + 1)) = true then [] else lvs D n N h k (updF f (N - (k + 1)) (t : Nat)) (s + ab ((t : Nat) - h (N - (k + 1))))
def lvT (D : Sp) (n N : Nat) (h : Nat → Int) (k : Nat) (f : Nat → Int) (s : Int) (m : Nat) : List Lf := (List.range m).flatMap (brn D n N h k f s)
theorem lvs_1 {D : Sp} {n N : Nat} {h : Nat → Int} {k : Nat} {f : Nat → Int} {s : Int} (hb : bt n (N - (k + 1)) = 1) : lvs D n N h (k + 1) f s = lvT D n N h k f s 11 := by
  rw [lvs, if_pos hb]; rfl
theorem lvs_0 {D : Sp} {n N : Nat} {h : Nat → Int} {k : Nat} {f : Nat → Int} {s : Int} (hb : ¬ bt n (N - (k + 1)) = 1) : lvs D n N h (k + 1) f s = lvs D n N h k f s := by
  rw [lvs, if_neg hb]
theorem lvT_s (D : Sp) (n N : Nat) (h : Nat → Int) (k : Nat) (f : Nat → Int) (s : Int) (m : Nat) : lvT D n N h k f s (m + 1) = lvT D n N h k f s m ++ brn D n N h k f s m := by
  unfold lvT
  rw [List.range_succ, List.flatMap_append]
  congr 1
  simp
def tk (st x : Lf) : Lf := if x.1 < st.1 then x else st
def fo (st : Lf) (L : List Lf) : Lf := L.foldl tk st
theorem fo_app (st : Lf) (L1 L2 : List Lf) : fo st (L1 ++ L2) = fo (fo st L1) L2 := List.foldl_append
theorem fo_nil (st : Lf) : fo st [] = st := rfl
theorem fo_ge : ∀ (L : List Lf) (st : Lf), (∀ x, x ∈ L → st.1 ≤ x.1) → fo st L = st := by
  intro L
  induction L with
  | nil => intro st _; rfl
  | cons a L ih =>
    intro st h
    show fo (tk st a) L = st
    have ha := h a (by simp)
    have e : tk st a = st := by unfold tk; rw [if_neg (by omega)]
    rw [e]
    exact ih st fun x hx => h x (by simp [hx])
theorem fo_same : ∀ (L : List Lf) (st st' : Lf), (∃ x, x ∈ L ∧ x.1 < st.1 ∧ x.1 < st'.1) → fo st L = fo st' L := by
  intro L
  induction L with
  | nil => rintro st st' ⟨x, hx, -⟩; simp at hx
  | cons a L ih =>
    rintro st st' ⟨x, hx, h1, h2⟩
    show fo (tk st a) L = fo (tk st' a) L
    unfold tk
    by_cases a1 : a.1 < st.1
    · by_cases a2 : a.1 < st'.1
      · rw [if_pos a1, if_pos a2]
      · rw [if_pos a1, if_neg a2]
        rcases List.mem_cons.mp hx with rfl | hx
        · exact absurd h2 a2
        · exact ih a st' ⟨x, hx, by omega, h2⟩
    · rw [if_neg a1]
      by_cases a2 : a.1 < st'.1
      · rw [if_pos a2]
        rcases List.mem_cons.mp hx with rfl | hx
        · exact absurd h1 a1
        · exact ih st a ⟨x, hx, h1, by omega⟩
      · rw [if_neg a2]
        rcases List.mem_cons.mp hx with rfl | hx
        · exact absurd h1 a1
        · exact ih st st' ⟨x, hx, h1, h2⟩
theorem fo_mem : ∀ (L : List Lf) (st : Lf), (fo st L = st ∨ fo st L ∈ L) ∧ (fo st L).1 ≤ st.1 ∧ ∀ x, x ∈ L → (fo st L).1 ≤ x.1 := by
  intro L
  induction L with
  | nil => intro st; exact ⟨Or.inl rfl, Int.le_refl _, fun x hx => by simp at hx⟩
  | cons a L ih =>
    intro st
    show (fo (tk st a) L = st ∨ fo (tk st a) L ∈ a :: L) ∧ (fo (tk st a) L).1 ≤ st.1 ∧ ∀ x, x ∈ a :: L → (fo (tk st a) L).1 ≤ x.1
    obtain ⟨i1, i2, i3⟩ := ih (tk st a)
    have e1 : (tk st a).1 ≤ st.1 ∧ (tk st a).1 ≤ a.1 := by
      unfold tk
      by_cases h : a.1 < st.1
      · rw [if_pos h]; omega
      · rw [if_neg h]; omega
    refine ⟨?_, by omega, fun x hx => ?_⟩
    · rcases i1 with h | h
      · rw [h]
        unfold tk
        by_cases hh : a.1 < st.1
        · rw [if_pos hh]; exact Or.inr (by simp)
        · rw [if_neg hh]; exact Or.inl rfl
      · exact Or.inr (by simp [h])
    · rcases List.mem_cons.mp hx with rfl | hx
      · omega
      · exact i3 x hx
section SEARCH
variable {D : Sp} {n N : Nat} {h : Nat → Int}
theorem mem_1 {k : Nat} {f : Nat → Int} {s : Int} {x : Lf} (hb : bt n (N - (k + 1)) = 1) (hx : x ∈ lvs D n N h (k + 1) f s) : ∃ t : Nat, t < 11 ∧ bad D n (updF f (N - (k + 1)) (t : Nat)) (N - (k + 1)) = false ∧ x ∈ lvs D n N h k (updF f (N - (k + 1)) (t : Nat)) (s + ab ((t : Nat) - h (N - (k + 1)))) := by
  rw [lvs_1 hb] at hx
  unfold lvT brn at hx
  rw [List.mem_flatMap] at hx
  obtain ⟨t, ht, hx⟩ := hx
  by_cases hbd : bad D n (updF f (N - (k + 1)) (t : Nat)) (N - (k + 1)) = true
  · rw [if_pos hbd] at hx; simp at hx
  · rw [if_neg hbd] at hx
    exact ⟨t, List.mem_range.mp ht, by simpa using hbd, hx⟩
theorem mem_2 {k : Nat} {f : Nat → Int} {s : Int} {x : Lf} (hb : bt n (N - (k + 1)) = 1) {t : Nat} (ht : t < 11) (hbd : bad D n (updF f (N - (k + 1)) (t : Nat)) (N - (k + 1)) = false) (hx : x ∈ lvs D n N h k (updF f (N - (k + 1)) (t : Nat)) (s + ab ((t : Nat) - h (N - (k + 1))))) : x ∈ lvs D n N h (k + 1) f s := by
  rw [lvs_1 hb]
  unfold lvT brn
  rw [List.mem_flatMap]
  refine ⟨t, List.mem_range.mpr ht, ?_⟩
  rw [if_neg (by rw [hbd]; simp)]
  exact hx
theorem lvs_ge : ∀ (k : Nat) (f : Nat → Int) (s : Int) (x : Lf), x ∈ lvs D n N h k f s → s ≤ x.1 := by
  intro k
  induction k with
  | zero => intro f s x hx; simp [lvs] at hx; rw [hx]; exact Int.le_refl _
  | succ k ih =>
    intro f s x hx
    by_cases hb : bt n (N - (k + 1)) = 1
    · obtain ⟨t, ht, -, hx⟩ := mem_1 hb hx
      have h1 := ih _ _ x hx
      have h2 : 0 ≤ ab ((t : Nat) - h (N - (k + 1))) := by unfold ab; omega
      omega
    · rw [lvs_0 hb] at hx
      exact ih f s x hx
def fiv (n N : Nat) (h : Nat → Int) : Nat → Int
  | 0 => 0
  | k + 1 => (if bt n (N - (k + 1)) = 1 then ab (5 - h (N - (k + 1))) else 0) + fiv n N h k
theorem lvs_five {C : Sp} (hD : OkD C D) : ∀ (k : Nat) (f : Nat → Int) (s : Int), k ≤ N → (∀ q, q < N - k → bt n q = 1 → f q = 5) → ∃ x, x ∈ lvs D n N h k f s ∧ x.1 = s + fiv n N h k := by
  intro k
  induction k with
  | zero => intro f s _ _; exact ⟨(s, f), by simp [lvs], by show s = s + 0; omega⟩
  | succ k ih =>
    intro f s hk hf
    by_cases hb : bt n (N - (k + 1)) = 1
    · have hbd : bad D n (updF f (N - (k + 1)) (5 : Nat)) (N - (k + 1)) = false := by
        cases hx : bad D n (updF f (N - (k + 1)) (5 : Nat)) (N - (k + 1)) with
        | false => rfl
        | true =>
          exfalso
          unfold bad at hx
          obtain ⟨i, hi, hx⟩ := (anyN_iff _).mp hx
          have ot := hD.2.2.2.2.2.1 i hi
          unfold td at hx
          simp only [Bool.and_eq_true, decide_eq_true_eq, beq_iff_eq] at hx
          obtain ⟨⟨x1, x2⟩, x3⟩ := hx
          have e1 : updF f (N - (k + 1)) ((5 : Nat) : Int) (D 71 i).toNat = 5 := by
            unfold updF
            by_cases hy : (D 71 i).toNat = N - (k + 1)
            · rw [if_pos hy]; rfl
            · rw [if_neg hy]
              refine hf _ (by omega) ?_
              rw [show (D 71 i).toNat = (min (D 71 i) (D 72 i)).toNat by omega]; exact x2
          have e2 : updF f (N - (k + 1)) ((5 : Nat) : Int) (D 72 i).toNat = 5 := by
            unfold updF
            by_cases hy : (D 72 i).toNat = N - (k + 1)
            · rw [if_pos hy]; rfl
            · rw [if_neg hy]
              refine hf _ (by omega) ?_
              rw [show (D 72 i).toNat = (min (D 71 i) (D 72 i)).toNat by omega]; exact x2
          rw [e1, e2] at x3
          unfold brk at x3
          revert x3
          split
          · simp
          · split <;> simp
      obtain ⟨x, hx1, hx2⟩ := ih (updF f (N - (k + 1)) (5 : Nat)) (s + ab ((5 : Nat) - h (N - (k + 1)))) (by omega) (fun q hq hbq => by
        unfold updF
        by_cases hy : q = N - (k + 1)
        · rw [if_pos hy]; rfl
        · rw [if_neg hy]; exact hf q (by omega) hbq)
      refine ⟨x, mem_2 hb (by omega) hbd hx1, ?_⟩
      rw [hx2, fiv, if_pos hb, show ((5 : Nat) : Int) = 5 from rfl]
      omega
    · obtain ⟨x, hx1, hx2⟩ := ih f s (by omega) (fun q hq hbq => by
        by_cases hy : q = N - (k + 1)
        · subst hy; exact absurd hbq hb
        · exact hf q (by omega) hbq)
      refine ⟨x, by rw [lvs_0 hb]; exact hx1, ?_⟩
      rw [hx2, fiv, if_neg hb]
      omega
theorem lvs_val : ∀ (k : Nat) (f : Nat → Int) (s : Int) (x : Lf), k ≤ N → (∀ q, q < N - k → bt n q = 1 → 0 ≤ f q ∧ f q ≤ 10) → x ∈ lvs D n N h k f s → ∀ q, q < N → bt n q = 1 → 0 ≤ x.2 q ∧ x.2 q ≤ 10 := by
  intro k
  induction k with
  | zero =>
    intro f s x _ hf hx q hq hb
    simp [lvs] at hx
    rw [hx]
    exact hf q (by omega) hb
  | succ k ih =>
    intro f s x hk hf hx
    by_cases hb : bt n (N - (k + 1)) = 1
    · obtain ⟨t, ht, -, hx⟩ := mem_1 hb hx
      refine ih _ _ x (by omega) (fun q hq hbq => ?_) hx
      unfold updF
      by_cases hy : q = N - (k + 1)
      · rw [if_pos hy]; omega
      · rw [if_neg hy]; exact hf q (by omega) hbq
    · rw [lvs_0 hb] at hx
      refine ih f s x (by omega) (fun q hq hbq => ?_) hx
      by_cases hy : q = N - (k + 1)
      · subst hy; exact absurd hbq hb
      · exact hf q (by omega) hbq
end SEARCH
