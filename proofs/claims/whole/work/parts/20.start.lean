/-! THE START: what the Statement gives at the law's entry is the world that the walk needs; the law's function answering 1 gives the claim -/
def u0 : Mem := (fun _ _ => 0, fun _ _ => 0, fun _ _ => none, 0)
/-- what the mathematics must give -/
def LawTrue : Prop := ∀ (n : Nat) (xs : Nat → Int32), n ≤ 3072 → ∃ u' : Mem, fL_law n xs u0 = some (1, u') ∧ mN u' ≤ 1000
theorem KT_le : ∀ n, n ≤ 1000 → KT n ≤ 50000 := by
  have h : KT 1000 ≤ 50000 := by decide +kernel
  exact fun n hn => Nat.le_trans (KT_mono hn) h
def cAt : List Bool → Cond → Cond
  | [], T => T
  | false :: ps, .and a _ => cAt ps a
  | true :: ps, .and _ b => cAt ps b
  | _ :: _, T => T
theorem path_of {args : Array Value} {s : State} : ∀ (ps : List Bool) (T : Cond), T.before args s = true → (cAt ps T).before args s = true := by
  intro ps
  induction ps with
  | nil => intro T h; exact h
  | cons p ps ih =>
    intro T h
    cases T with
    | and a b =>
      rw [Cond.before_and, Bool.and_eq_true] at h
      cases p
      · exact ih a h.1
      · exact ih b h.2
    | _ => cases p <;> exact h
section STA
variable {args : Array Value} {s : State}
abbrev GN : Cond := Jvm.Cond.and given_1 narrow_1
theorem st_0 (h : GN.before args s = true) : ∃ q : Nat × Nat, (Term.string "ForeBook$RuleReader" 81).eval args s none [] s = some (.ref q.1) ∧ (Term.string "ForeBookModel" 72).eval args s none [] s = some (.ref q.1) ∧ StrA q.1 q.2 0 s := by
  obtain ⟨a, c, cA, kA, q1, q2, q3, q4, q5, q6, -⟩ := Cond.exactly_spec (args := args) (first := s) (o := none) (s := s) (idx := []) (t := .string "ForeBook$RuleReader" 81) (cls := "java/lang/String") (path_of [true, false, false, false, true, true, true, true, true, false] GN h)
  have hco : (Cond.eq (.field (.string "ForeBook$RuleReader" 81) "java/lang/String" "coder" "B") (.int 0)).before args s = true := path_of [true, false, false, false, true, true, true, true, true, true] GN h
  have har : (Cond.arrayOf (.field (.string "ForeBook$RuleReader" 81) "java/lang/String" "value" "[B") .byte).before args s = true := path_of [true, false, false, true, false, false, false, false, false] GN h
  have hle : (Cond.eq (.length (.field (.string "ForeBook$RuleReader" 81) "java/lang/String" "value" "[B")) (.int (Int32.ofNat 3))).before args s = true := path_of [true, false, false, true, false, false, false, false, true, false] GN h
  have he0 : (Cond.eq (.elem (.field (.string "ForeBook$RuleReader" 81) "java/lang/String" "value" "[B") (.int (Int32.ofNat 0))) (.int 121)).before args s = true := path_of [true, false, false, true, false, false, false, false, true, true] GN h
  have he1 : (Cond.eq (.elem (.field (.string "ForeBook$RuleReader" 81) "java/lang/String" "value" "[B") (.int (Int32.ofNat 1))) (.int 101)).before args s = true := path_of [true, false, false, true, false, false, false, true, false] GN h
  have he2 : (Cond.eq (.elem (.field (.string "ForeBook$RuleReader" 81) "java/lang/String" "value" "[B") (.int (Int32.ofNat 2))) (.int 115)).before args s = true := path_of [true, false, false, true, false, false, false, true, true, false] GN h
  have hel : ∀ j, j < 3 → (Term.elem (.field (.string "ForeBook$RuleReader" 81) "java/lang/String" "value" "[B") (.int (Int32.ofNat j))).eval args s none [] s = some (.int ((stB.getD 0 []).getD j 0)) := lt_s (lt_s (lt_s (lt_0) (va_eqt he0)) (va_eqt he1)) (va_eqt he2)
  have hA : ∀ a : Nat, a < s.heap.size → ¬ (fun q : Nat => s.heap.size ≤ q) a := fun a h => Nat.not_le.mpr h
  obtain ⟨t, ht, hT⟩ := va_Tof (f := fun j => .int ((stB.getD 0 []).getD j 0)) (A := fun q : Nat => s.heap.size ≤ q) (N := 3) (by decide) har (va_eqt hle) hel hA
  exact ⟨(a, t), q1, va_eqR (path_of [true, false, true, true, true, false, true, false, true, true] GN h) q1, ⟨cA, q3, q5, by rw [q6]; exact q2, hA a (Array.getElem?_eq_some_iff.mp q3).1⟩, vk_OFof q1 (va_eqt hco) hA, vk_OFof q1 ht hA, hT⟩
theorem st_1 (h : GN.before args s = true) : ∃ q : Nat × Nat, (Term.string "ForeBook$RuleReader" 87).eval args s none [] s = some (.ref q.1) ∧ (Term.string "ForeBookModel" 74).eval args s none [] s = some (.ref q.1) ∧ StrA q.1 q.2 1 s := by
  obtain ⟨a, c, cA, kA, q1, q2, q3, q4, q5, q6, -⟩ := Cond.exactly_spec (args := args) (first := s) (o := none) (s := s) (idx := []) (t := .string "ForeBook$RuleReader" 87) (cls := "java/lang/String") (path_of [true, false, false, true, false, false, false, true, true, true] GN h)
  have hco : (Cond.eq (.field (.string "ForeBook$RuleReader" 87) "java/lang/String" "coder" "B") (.int 0)).before args s = true := path_of [true, false, false, true, false, false, true, false, false] GN h
  have har : (Cond.arrayOf (.field (.string "ForeBook$RuleReader" 87) "java/lang/String" "value" "[B") .byte).before args s = true := path_of [true, false, false, true, false, false, true, false, true, false] GN h
  have hle : (Cond.eq (.length (.field (.string "ForeBook$RuleReader" 87) "java/lang/String" "value" "[B")) (.int (Int32.ofNat 2))).before args s = true := path_of [true, false, false, true, false, false, true, false, true, true] GN h
  have he0 : (Cond.eq (.elem (.field (.string "ForeBook$RuleReader" 87) "java/lang/String" "value" "[B") (.int (Int32.ofNat 0))) (.int 110)).before args s = true := path_of [true, false, false, true, false, false, true, true, false] GN h
  have he1 : (Cond.eq (.elem (.field (.string "ForeBook$RuleReader" 87) "java/lang/String" "value" "[B") (.int (Int32.ofNat 1))) (.int 111)).before args s = true := path_of [true, false, false, true, false, false, true, true, true, false] GN h
  have hel : ∀ j, j < 2 → (Term.elem (.field (.string "ForeBook$RuleReader" 87) "java/lang/String" "value" "[B") (.int (Int32.ofNat j))).eval args s none [] s = some (.int ((stB.getD 1 []).getD j 0)) := lt_s (lt_s (lt_0) (va_eqt he0)) (va_eqt he1)
  have hA : ∀ a : Nat, a < s.heap.size → ¬ (fun q : Nat => s.heap.size ≤ q) a := fun a h => Nat.not_le.mpr h
  obtain ⟨t, ht, hT⟩ := va_Tof (f := fun j => .int ((stB.getD 1 []).getD j 0)) (A := fun q : Nat => s.heap.size ≤ q) (N := 2) (by decide) har (va_eqt hle) hel hA
  exact ⟨(a, t), q1, va_eqR (path_of [true, false, true, true, true, true, true, true, true, true] GN h) q1, ⟨cA, q3, q5, by rw [q6]; exact q2, hA a (Array.getElem?_eq_some_iff.mp q3).1⟩, vk_OFof q1 (va_eqt hco) hA, vk_OFof q1 ht hA, hT⟩
theorem st_2 (h : GN.before args s = true) : ∃ q : Nat × Nat, (Term.string "ForeBook$RuleReader" 89).eval args s none [] s = some (.ref q.1) ∧ (Term.string "ForeBookModel" 76).eval args s none [] s = some (.ref q.1) ∧ StrA q.1 q.2 2 s := by
  obtain ⟨a, c, cA, kA, q1, q2, q3, q4, q5, q6, -⟩ := Cond.exactly_spec (args := args) (first := s) (o := none) (s := s) (idx := []) (t := .string "ForeBook$RuleReader" 89) (cls := "java/lang/String") (path_of [true, false, false, true, false, true, false, false, false] GN h)
  have hco : (Cond.eq (.field (.string "ForeBook$RuleReader" 89) "java/lang/String" "coder" "B") (.int 0)).before args s = true := path_of [true, false, false, true, false, true, false, false, true, false] GN h
  have har : (Cond.arrayOf (.field (.string "ForeBook$RuleReader" 89) "java/lang/String" "value" "[B") .byte).before args s = true := path_of [true, false, false, true, false, true, false, false, true, true] GN h
  have hle : (Cond.eq (.length (.field (.string "ForeBook$RuleReader" 89) "java/lang/String" "value" "[B")) (.int (Int32.ofNat 7))).before args s = true := path_of [true, false, false, true, false, true, false, true, false] GN h
  have he0 : (Cond.eq (.elem (.field (.string "ForeBook$RuleReader" 89) "java/lang/String" "value" "[B") (.int (Int32.ofNat 0))) (.int 109)).before args s = true := path_of [true, false, false, true, false, true, false, true, true, false] GN h
  have he1 : (Cond.eq (.elem (.field (.string "ForeBook$RuleReader" 89) "java/lang/String" "value" "[B") (.int (Int32.ofNat 1))) (.int 105)).before args s = true := path_of [true, false, false, true, false, true, false, true, true, true] GN h
  have he2 : (Cond.eq (.elem (.field (.string "ForeBook$RuleReader" 89) "java/lang/String" "value" "[B") (.int (Int32.ofNat 2))) (.int 115)).before args s = true := path_of [true, false, false, true, false, true, true, false, false] GN h
  have he3 : (Cond.eq (.elem (.field (.string "ForeBook$RuleReader" 89) "java/lang/String" "value" "[B") (.int (Int32.ofNat 3))) (.int 115)).before args s = true := path_of [true, false, false, true, false, true, true, false, true, false] GN h
  have he4 : (Cond.eq (.elem (.field (.string "ForeBook$RuleReader" 89) "java/lang/String" "value" "[B") (.int (Int32.ofNat 4))) (.int 105)).before args s = true := path_of [true, false, false, true, false, true, true, false, true, true] GN h
  have he5 : (Cond.eq (.elem (.field (.string "ForeBook$RuleReader" 89) "java/lang/String" "value" "[B") (.int (Int32.ofNat 5))) (.int 110)).before args s = true := path_of [true, false, false, true, false, true, true, true, false, false] GN h
  have he6 : (Cond.eq (.elem (.field (.string "ForeBook$RuleReader" 89) "java/lang/String" "value" "[B") (.int (Int32.ofNat 6))) (.int 103)).before args s = true := path_of [true, false, false, true, false, true, true, true, false, true] GN h
  have hel : ∀ j, j < 7 → (Term.elem (.field (.string "ForeBook$RuleReader" 89) "java/lang/String" "value" "[B") (.int (Int32.ofNat j))).eval args s none [] s = some (.int ((stB.getD 2 []).getD j 0)) := lt_s (lt_s (lt_s (lt_s (lt_s (lt_s (lt_s (lt_0) (va_eqt he0)) (va_eqt he1)) (va_eqt he2)) (va_eqt he3)) (va_eqt he4)) (va_eqt he5)) (va_eqt he6)
  have hA : ∀ a : Nat, a < s.heap.size → ¬ (fun q : Nat => s.heap.size ≤ q) a := fun a h => Nat.not_le.mpr h
  obtain ⟨t, ht, hT⟩ := va_Tof (f := fun j => .int ((stB.getD 2 []).getD j 0)) (A := fun q : Nat => s.heap.size ≤ q) (N := 7) (by decide) har (va_eqt hle) hel hA
  exact ⟨(a, t), q1, va_eqR (path_of [true, true, false, false, false, true, true, true, false, true] GN h) q1, ⟨cA, q3, q5, by rw [q6]; exact q2, hA a (Array.getElem?_eq_some_iff.mp q3).1⟩, vk_OFof q1 (va_eqt hco) hA, vk_OFof q1 ht hA, hT⟩
theorem st_3 (h : GN.before args s = true) : ∃ q : Nat × Nat, (Term.string "ForeBook$RuleReader" 91).eval args s none [] s = some (.ref q.1) ∧ (Term.string "ForeBookModel" 78).eval args s none [] s = some (.ref q.1) ∧ StrA q.1 q.2 3 s := by
  obtain ⟨a, c, cA, kA, q1, q2, q3, q4, q5, q6, -⟩ := Cond.exactly_spec (args := args) (first := s) (o := none) (s := s) (idx := []) (t := .string "ForeBook$RuleReader" 91) (cls := "java/lang/String") (path_of [true, false, false, true, true, false, false, false, false] GN h)
  have hco : (Cond.eq (.field (.string "ForeBook$RuleReader" 91) "java/lang/String" "coder" "B") (.int 0)).before args s = true := path_of [true, false, false, true, true, false, false, false, true, false] GN h
  have har : (Cond.arrayOf (.field (.string "ForeBook$RuleReader" 91) "java/lang/String" "value" "[B") .byte).before args s = true := path_of [true, false, false, true, true, false, false, false, true, true] GN h
  have hle : (Cond.eq (.length (.field (.string "ForeBook$RuleReader" 91) "java/lang/String" "value" "[B")) (.int (Int32.ofNat 7))).before args s = true := path_of [true, false, false, true, true, false, false, true, false] GN h
  have he0 : (Cond.eq (.elem (.field (.string "ForeBook$RuleReader" 91) "java/lang/String" "value" "[B") (.int (Int32.ofNat 0))) (.int 119)).before args s = true := path_of [true, false, false, true, true, false, false, true, true, false] GN h
  have he1 : (Cond.eq (.elem (.field (.string "ForeBook$RuleReader" 91) "java/lang/String" "value" "[B") (.int (Int32.ofNat 1))) (.int 101)).before args s = true := path_of [true, false, false, true, true, false, false, true, true, true] GN h
  have he2 : (Cond.eq (.elem (.field (.string "ForeBook$RuleReader" 91) "java/lang/String" "value" "[B") (.int (Int32.ofNat 2))) (.int 105)).before args s = true := path_of [true, false, false, true, true, false, true, false, false] GN h
  have he3 : (Cond.eq (.elem (.field (.string "ForeBook$RuleReader" 91) "java/lang/String" "value" "[B") (.int (Int32.ofNat 3))) (.int 103)).before args s = true := path_of [true, false, false, true, true, false, true, false, true, false] GN h
  have he4 : (Cond.eq (.elem (.field (.string "ForeBook$RuleReader" 91) "java/lang/String" "value" "[B") (.int (Int32.ofNat 4))) (.int 104)).before args s = true := path_of [true, false, false, true, true, false, true, false, true, true] GN h
  have he5 : (Cond.eq (.elem (.field (.string "ForeBook$RuleReader" 91) "java/lang/String" "value" "[B") (.int (Int32.ofNat 5))) (.int 116)).before args s = true := path_of [true, false, false, true, true, false, true, true, false, false] GN h
  have he6 : (Cond.eq (.elem (.field (.string "ForeBook$RuleReader" 91) "java/lang/String" "value" "[B") (.int (Int32.ofNat 6))) (.int 115)).before args s = true := path_of [true, false, false, true, true, false, true, true, false, true] GN h
  have hel : ∀ j, j < 7 → (Term.elem (.field (.string "ForeBook$RuleReader" 91) "java/lang/String" "value" "[B") (.int (Int32.ofNat j))).eval args s none [] s = some (.int ((stB.getD 3 []).getD j 0)) := lt_s (lt_s (lt_s (lt_s (lt_s (lt_s (lt_s (lt_0) (va_eqt he0)) (va_eqt he1)) (va_eqt he2)) (va_eqt he3)) (va_eqt he4)) (va_eqt he5)) (va_eqt he6)
  have hA : ∀ a : Nat, a < s.heap.size → ¬ (fun q : Nat => s.heap.size ≤ q) a := fun a h => Nat.not_le.mpr h
  obtain ⟨t, ht, hT⟩ := va_Tof (f := fun j => .int ((stB.getD 3 []).getD j 0)) (A := fun q : Nat => s.heap.size ≤ q) (N := 7) (by decide) har (va_eqt hle) hel hA
  exact ⟨(a, t), q1, va_eqR (path_of [true, true, false, false, true, true, true, false, true, true] GN h) q1, ⟨cA, q3, q5, by rw [q6]; exact q2, hA a (Array.getElem?_eq_some_iff.mp q3).1⟩, vk_OFof q1 (va_eqt hco) hA, vk_OFof q1 ht hA, hT⟩
theorem st_4 (h : GN.before args s = true) : ∃ q : Nat × Nat, (Term.string "ForeBook$RuleReader" 93).eval args s none [] s = some (.ref q.1) ∧ (Term.string "ForeBookModel" 80).eval args s none [] s = some (.ref q.1) ∧ StrA q.1 q.2 4 s := by
  obtain ⟨a, c, cA, kA, q1, q2, q3, q4, q5, q6, -⟩ := Cond.exactly_spec (args := args) (first := s) (o := none) (s := s) (idx := []) (t := .string "ForeBook$RuleReader" 93) (cls := "java/lang/String") (path_of [true, false, false, true, true, true, false, false, true, false] GN h)
  have hco : (Cond.eq (.field (.string "ForeBook$RuleReader" 93) "java/lang/String" "coder" "B") (.int 0)).before args s = true := path_of [true, false, false, true, true, true, false, false, true, true] GN h
  have har : (Cond.arrayOf (.field (.string "ForeBook$RuleReader" 93) "java/lang/String" "value" "[B") .byte).before args s = true := path_of [true, false, false, true, true, true, false, true, false] GN h
  have hle : (Cond.eq (.length (.field (.string "ForeBook$RuleReader" 93) "java/lang/String" "value" "[B")) (.int (Int32.ofNat 4))).before args s = true := path_of [true, false, false, true, true, true, false, true, true, false] GN h
  have he0 : (Cond.eq (.elem (.field (.string "ForeBook$RuleReader" 93) "java/lang/String" "value" "[B") (.int (Int32.ofNat 0))) (.int 99)).before args s = true := path_of [true, false, false, true, true, true, false, true, true, true] GN h
  have he1 : (Cond.eq (.elem (.field (.string "ForeBook$RuleReader" 93) "java/lang/String" "value" "[B") (.int (Int32.ofNat 1))) (.int 111)).before args s = true := path_of [true, false, false, true, true, true, true, false, false] GN h
  have he2 : (Cond.eq (.elem (.field (.string "ForeBook$RuleReader" 93) "java/lang/String" "value" "[B") (.int (Int32.ofNat 2))) (.int 112)).before args s = true := path_of [true, false, false, true, true, true, true, false, true, false] GN h
  have he3 : (Cond.eq (.elem (.field (.string "ForeBook$RuleReader" 93) "java/lang/String" "value" "[B") (.int (Int32.ofNat 3))) (.int 121)).before args s = true := path_of [true, false, false, true, true, true, true, false, true, true] GN h
  have hel : ∀ j, j < 4 → (Term.elem (.field (.string "ForeBook$RuleReader" 93) "java/lang/String" "value" "[B") (.int (Int32.ofNat j))).eval args s none [] s = some (.int ((stB.getD 4 []).getD j 0)) := lt_s (lt_s (lt_s (lt_s (lt_0) (va_eqt he0)) (va_eqt he1)) (va_eqt he2)) (va_eqt he3)
  have hA : ∀ a : Nat, a < s.heap.size → ¬ (fun q : Nat => s.heap.size ≤ q) a := fun a h => Nat.not_le.mpr h
  obtain ⟨t, ht, hT⟩ := va_Tof (f := fun j => .int ((stB.getD 4 []).getD j 0)) (A := fun q : Nat => s.heap.size ≤ q) (N := 4) (by decide) har (va_eqt hle) hel hA
  exact ⟨(a, t), q1, va_eqR (path_of [true, true, false, true, false, true, false, true, true, true] GN h) q1, ⟨cA, q3, q5, by rw [q6]; exact q2, hA a (Array.getElem?_eq_some_iff.mp q3).1⟩, vk_OFof q1 (va_eqt hco) hA, vk_OFof q1 ht hA, hT⟩
theorem st_5 (h : GN.before args s = true) : ∃ q : Nat × Nat, (Term.string "ForeBook$RuleReader" 95).eval args s none [] s = some (.ref q.1) ∧ (Term.string "ForeBookModel" 82).eval args s none [] s = some (.ref q.1) ∧ StrA q.1 q.2 5 s := by
  obtain ⟨a, c, cA, kA, q1, q2, q3, q4, q5, q6, -⟩ := Cond.exactly_spec (args := args) (first := s) (o := none) (s := s) (idx := []) (t := .string "ForeBook$RuleReader" 95) (cls := "java/lang/String") (path_of [true, false, true, false, false, false, false, false, false] GN h)
  have hco : (Cond.eq (.field (.string "ForeBook$RuleReader" 95) "java/lang/String" "coder" "B") (.int 0)).before args s = true := path_of [true, false, true, false, false, false, false, false, true, false] GN h
  have har : (Cond.arrayOf (.field (.string "ForeBook$RuleReader" 95) "java/lang/String" "value" "[B") .byte).before args s = true := path_of [true, false, true, false, false, false, false, false, true, true] GN h
  have hle : (Cond.eq (.length (.field (.string "ForeBook$RuleReader" 95) "java/lang/String" "value" "[B")) (.int (Int32.ofNat 5))).before args s = true := path_of [true, false, true, false, false, false, false, true, false] GN h
  have he0 : (Cond.eq (.elem (.field (.string "ForeBook$RuleReader" 95) "java/lang/String" "value" "[B") (.int (Int32.ofNat 0))) (.int 108)).before args s = true := path_of [true, false, true, false, false, false, false, true, true, false] GN h
  have he1 : (Cond.eq (.elem (.field (.string "ForeBook$RuleReader" 95) "java/lang/String" "value" "[B") (.int (Int32.ofNat 1))) (.int 101)).before args s = true := path_of [true, false, true, false, false, false, false, true, true, true] GN h
  have he2 : (Cond.eq (.elem (.field (.string "ForeBook$RuleReader" 95) "java/lang/String" "value" "[B") (.int (Int32.ofNat 2))) (.int 97)).before args s = true := path_of [true, false, true, false, false, false, true, false, false] GN h
  have he3 : (Cond.eq (.elem (.field (.string "ForeBook$RuleReader" 95) "java/lang/String" "value" "[B") (.int (Int32.ofNat 3))) (.int 115)).before args s = true := path_of [true, false, true, false, false, false, true, false, true, false] GN h
  have he4 : (Cond.eq (.elem (.field (.string "ForeBook$RuleReader" 95) "java/lang/String" "value" "[B") (.int (Int32.ofNat 4))) (.int 116)).before args s = true := path_of [true, false, true, false, false, false, true, false, true, true] GN h
  have hel : ∀ j, j < 5 → (Term.elem (.field (.string "ForeBook$RuleReader" 95) "java/lang/String" "value" "[B") (.int (Int32.ofNat j))).eval args s none [] s = some (.int ((stB.getD 5 []).getD j 0)) := lt_s (lt_s (lt_s (lt_s (lt_s (lt_0) (va_eqt he0)) (va_eqt he1)) (va_eqt he2)) (va_eqt he3)) (va_eqt he4)
  have hA : ∀ a : Nat, a < s.heap.size → ¬ (fun q : Nat => s.heap.size ≤ q) a := fun a h => Nat.not_le.mpr h
  obtain ⟨t, ht, hT⟩ := va_Tof (f := fun j => .int ((stB.getD 5 []).getD j 0)) (A := fun q : Nat => s.heap.size ≤ q) (N := 5) (by decide) har (va_eqt hle) hel hA
  exact ⟨(a, t), q1, va_eqR (path_of [true, true, false, true, true, true, false, true, false] GN h) q1, ⟨cA, q3, q5, by rw [q6]; exact q2, hA a (Array.getElem?_eq_some_iff.mp q3).1⟩, vk_OFof q1 (va_eqt hco) hA, vk_OFof q1 ht hA, hT⟩
theorem st_6 (h : GN.before args s = true) : ∃ q : Nat × Nat, (Term.string "ForeBook$RuleReader" 106).eval args s none [] s = some (.ref q.1) ∧ (Term.string "ForeBookModel" 121).eval args s none [] s = some (.ref q.1) ∧ StrA q.1 q.2 6 s := by
  obtain ⟨a, c, cA, kA, q1, q2, q3, q4, q5, q6, -⟩ := Cond.exactly_spec (args := args) (first := s) (o := none) (s := s) (idx := []) (t := .string "ForeBook$RuleReader" 106) (cls := "java/lang/String") (path_of [true, false, true, false, false, true, false, false, true, true] GN h)
  have hco : (Cond.eq (.field (.string "ForeBook$RuleReader" 106) "java/lang/String" "coder" "B") (.int 0)).before args s = true := path_of [true, false, true, false, false, true, false, true, false] GN h
  have har : (Cond.arrayOf (.field (.string "ForeBook$RuleReader" 106) "java/lang/String" "value" "[B") .byte).before args s = true := path_of [true, false, true, false, false, true, false, true, true, false] GN h
  have hle : (Cond.eq (.length (.field (.string "ForeBook$RuleReader" 106) "java/lang/String" "value" "[B")) (.int (Int32.ofNat 4))).before args s = true := path_of [true, false, true, false, false, true, false, true, true, true] GN h
  have he0 : (Cond.eq (.elem (.field (.string "ForeBook$RuleReader" 106) "java/lang/String" "value" "[B") (.int (Int32.ofNat 0))) (.int 115)).before args s = true := path_of [true, false, true, false, false, true, true, false, false] GN h
  have he1 : (Cond.eq (.elem (.field (.string "ForeBook$RuleReader" 106) "java/lang/String" "value" "[B") (.int (Int32.ofNat 1))) (.int 107)).before args s = true := path_of [true, false, true, false, false, true, true, false, true, false] GN h
  have he2 : (Cond.eq (.elem (.field (.string "ForeBook$RuleReader" 106) "java/lang/String" "value" "[B") (.int (Int32.ofNat 2))) (.int 105)).before args s = true := path_of [true, false, true, false, false, true, true, false, true, true] GN h
  have he3 : (Cond.eq (.elem (.field (.string "ForeBook$RuleReader" 106) "java/lang/String" "value" "[B") (.int (Int32.ofNat 3))) (.int 112)).before args s = true := path_of [true, false, true, false, false, true, true, true, false, false] GN h
  have hel : ∀ j, j < 4 → (Term.elem (.field (.string "ForeBook$RuleReader" 106) "java/lang/String" "value" "[B") (.int (Int32.ofNat j))).eval args s none [] s = some (.int ((stB.getD 6 []).getD j 0)) := lt_s (lt_s (lt_s (lt_s (lt_0) (va_eqt he0)) (va_eqt he1)) (va_eqt he2)) (va_eqt he3)
  have hA : ∀ a : Nat, a < s.heap.size → ¬ (fun q : Nat => s.heap.size ≤ q) a := fun a h => Nat.not_le.mpr h
  obtain ⟨t, ht, hT⟩ := va_Tof (f := fun j => .int ((stB.getD 6 []).getD j 0)) (A := fun q : Nat => s.heap.size ≤ q) (N := 4) (by decide) har (va_eqt hle) hel hA
  exact ⟨(a, t), q1, va_eqR (path_of [true, true, true, false, false, true, false, false, true, true] GN h) q1, ⟨cA, q3, q5, by rw [q6]; exact q2, hA a (Array.getElem?_eq_some_iff.mp q3).1⟩, vk_OFof q1 (va_eqt hco) hA, vk_OFof q1 ht hA, hT⟩
theorem st_7 (h : GN.before args s = true) : ∃ q : Nat × Nat, (Term.string "ForeBook$RuleReader" 108).eval args s none [] s = some (.ref q.1) ∧ (Term.string "ForeBookModel" 123).eval args s none [] s = some (.ref q.1) ∧ StrA q.1 q.2 7 s := by
  obtain ⟨a, c, cA, kA, q1, q2, q3, q4, q5, q6, -⟩ := Cond.exactly_spec (args := args) (first := s) (o := none) (s := s) (idx := []) (t := .string "ForeBook$RuleReader" 108) (cls := "java/lang/String") (path_of [true, false, true, false, true, false, false, true, false] GN h)
  have hco : (Cond.eq (.field (.string "ForeBook$RuleReader" 108) "java/lang/String" "coder" "B") (.int 0)).before args s = true := path_of [true, false, true, false, true, false, false, true, true, false] GN h
  have har : (Cond.arrayOf (.field (.string "ForeBook$RuleReader" 108) "java/lang/String" "value" "[B") .byte).before args s = true := path_of [true, false, true, false, true, false, false, true, true, true] GN h
  have hle : (Cond.eq (.length (.field (.string "ForeBook$RuleReader" 108) "java/lang/String" "value" "[B")) (.int (Int32.ofNat 4))).before args s = true := path_of [true, false, true, false, true, false, true, false, false] GN h
  have he0 : (Cond.eq (.elem (.field (.string "ForeBook$RuleReader" 108) "java/lang/String" "value" "[B") (.int (Int32.ofNat 0))) (.int 104)).before args s = true := path_of [true, false, true, false, true, false, true, false, true, false] GN h
  have he1 : (Cond.eq (.elem (.field (.string "ForeBook$RuleReader" 108) "java/lang/String" "value" "[B") (.int (Int32.ofNat 1))) (.int 97)).before args s = true := path_of [true, false, true, false, true, false, true, false, true, true] GN h
  have he2 : (Cond.eq (.elem (.field (.string "ForeBook$RuleReader" 108) "java/lang/String" "value" "[B") (.int (Int32.ofNat 2))) (.int 108)).before args s = true := path_of [true, false, true, false, true, false, true, true, false, false] GN h
  have he3 : (Cond.eq (.elem (.field (.string "ForeBook$RuleReader" 108) "java/lang/String" "value" "[B") (.int (Int32.ofNat 3))) (.int 102)).before args s = true := path_of [true, false, true, false, true, false, true, true, false, true] GN h
  have hel : ∀ j, j < 4 → (Term.elem (.field (.string "ForeBook$RuleReader" 108) "java/lang/String" "value" "[B") (.int (Int32.ofNat j))).eval args s none [] s = some (.int ((stB.getD 7 []).getD j 0)) := lt_s (lt_s (lt_s (lt_s (lt_0) (va_eqt he0)) (va_eqt he1)) (va_eqt he2)) (va_eqt he3)
  have hA : ∀ a : Nat, a < s.heap.size → ¬ (fun q : Nat => s.heap.size ≤ q) a := fun a h => Nat.not_le.mpr h
  obtain ⟨t, ht, hT⟩ := va_Tof (f := fun j => .int ((stB.getD 7 []).getD j 0)) (A := fun q : Nat => s.heap.size ≤ q) (N := 4) (by decide) har (va_eqt hle) hel hA
  exact ⟨(a, t), q1, va_eqR (path_of [true, true, true, false, true, true, false, false, true, false] GN h) q1, ⟨cA, q3, q5, by rw [q6]; exact q2, hA a (Array.getElem?_eq_some_iff.mp q3).1⟩, vk_OFof q1 (va_eqt hco) hA, vk_OFof q1 ht hA, hT⟩
theorem st_8 (h : GN.before args s = true) : ∃ q : Nat × Nat, (Term.string "ForeBook$RuleReader" 116).eval args s none [] s = some (.ref q.1) ∧ (Term.string "ForeBookModel" 129).eval args s none [] s = some (.ref q.1) ∧ StrA q.1 q.2 8 s := by
  obtain ⟨a, c, cA, kA, q1, q2, q3, q4, q5, q6, -⟩ := Cond.exactly_spec (args := args) (first := s) (o := none) (s := s) (idx := []) (t := .string "ForeBook$RuleReader" 116) (cls := "java/lang/String") (path_of [true, false, true, false, true, true, false, true, true, true] GN h)
  have hco : (Cond.eq (.field (.string "ForeBook$RuleReader" 116) "java/lang/String" "coder" "B") (.int 0)).before args s = true := path_of [true, false, true, false, true, true, true, false, false] GN h
  have har : (Cond.arrayOf (.field (.string "ForeBook$RuleReader" 116) "java/lang/String" "value" "[B") .byte).before args s = true := path_of [true, false, true, false, true, true, true, false, true, false] GN h
  have hle : (Cond.eq (.length (.field (.string "ForeBook$RuleReader" 116) "java/lang/String" "value" "[B")) (.int (Int32.ofNat 5))).before args s = true := path_of [true, false, true, false, true, true, true, false, true, true] GN h
  have he0 : (Cond.eq (.elem (.field (.string "ForeBook$RuleReader" 116) "java/lang/String" "value" "[B") (.int (Int32.ofNat 0))) (.int 97)).before args s = true := path_of [true, false, true, false, true, true, true, true, false, false] GN h
  have he1 : (Cond.eq (.elem (.field (.string "ForeBook$RuleReader" 116) "java/lang/String" "value" "[B") (.int (Int32.ofNat 1))) (.int 108)).before args s = true := path_of [true, false, true, false, true, true, true, true, false, true] GN h
  have he2 : (Cond.eq (.elem (.field (.string "ForeBook$RuleReader" 116) "java/lang/String" "value" "[B") (.int (Int32.ofNat 2))) (.int 105)).before args s = true := path_of [true, false, true, false, true, true, true, true, true, false] GN h
  have he3 : (Cond.eq (.elem (.field (.string "ForeBook$RuleReader" 116) "java/lang/String" "value" "[B") (.int (Int32.ofNat 3))) (.int 107)).before args s = true := path_of [true, false, true, false, true, true, true, true, true, true] GN h
  have he4 : (Cond.eq (.elem (.field (.string "ForeBook$RuleReader" 116) "java/lang/String" "value" "[B") (.int (Int32.ofNat 4))) (.int 101)).before args s = true := path_of [true, false, true, true, false, false, false, false, false] GN h
  have hel : ∀ j, j < 5 → (Term.elem (.field (.string "ForeBook$RuleReader" 116) "java/lang/String" "value" "[B") (.int (Int32.ofNat j))).eval args s none [] s = some (.int ((stB.getD 8 []).getD j 0)) := lt_s (lt_s (lt_s (lt_s (lt_s (lt_0) (va_eqt he0)) (va_eqt he1)) (va_eqt he2)) (va_eqt he3)) (va_eqt he4)
  have hA : ∀ a : Nat, a < s.heap.size → ¬ (fun q : Nat => s.heap.size ≤ q) a := fun a h => Nat.not_le.mpr h
  obtain ⟨t, ht, hT⟩ := va_Tof (f := fun j => .int ((stB.getD 8 []).getD j 0)) (A := fun q : Nat => s.heap.size ≤ q) (N := 5) (by decide) har (va_eqt hle) hel hA
  exact ⟨(a, t), q1, va_eqR (path_of [true, true, true, true, false, true, false, false, true, true] GN h) q1, ⟨cA, q3, q5, by rw [q6]; exact q2, hA a (Array.getElem?_eq_some_iff.mp q3).1⟩, vk_OFof q1 (va_eqt hco) hA, vk_OFof q1 ht hA, hT⟩
theorem st_9 (h : GN.before args s = true) : ∃ q : Nat × Nat, (Term.string "ForeBook$RuleReader" 118).eval args s none [] s = some (.ref q.1) ∧ (Term.string "ForeBookModel" 131).eval args s none [] s = some (.ref q.1) ∧ StrA q.1 q.2 9 s := by
  obtain ⟨a, c, cA, kA, q1, q2, q3, q4, q5, q6, -⟩ := Cond.exactly_spec (args := args) (first := s) (o := none) (s := s) (idx := []) (t := .string "ForeBook$RuleReader" 118) (cls := "java/lang/String") (path_of [true, false, true, true, false, false, true, true, false] GN h)
  have hco : (Cond.eq (.field (.string "ForeBook$RuleReader" 118) "java/lang/String" "coder" "B") (.int 0)).before args s = true := path_of [true, false, true, true, false, false, true, true, true, false] GN h
  have har : (Cond.arrayOf (.field (.string "ForeBook$RuleReader" 118) "java/lang/String" "value" "[B") .byte).before args s = true := path_of [true, false, true, true, false, false, true, true, true, true] GN h
  have hle : (Cond.eq (.length (.field (.string "ForeBook$RuleReader" 118) "java/lang/String" "value" "[B")) (.int (Int32.ofNat 4))).before args s = true := path_of [true, false, true, true, false, true, false, false, false] GN h
  have he0 : (Cond.eq (.elem (.field (.string "ForeBook$RuleReader" 118) "java/lang/String" "value" "[B") (.int (Int32.ofNat 0))) (.int 112)).before args s = true := path_of [true, false, true, true, false, true, false, false, true, false] GN h
  have he1 : (Cond.eq (.elem (.field (.string "ForeBook$RuleReader" 118) "java/lang/String" "value" "[B") (.int (Int32.ofNat 1))) (.int 97)).before args s = true := path_of [true, false, true, true, false, true, false, false, true, true] GN h
  have he2 : (Cond.eq (.elem (.field (.string "ForeBook$RuleReader" 118) "java/lang/String" "value" "[B") (.int (Int32.ofNat 2))) (.int 115)).before args s = true := path_of [true, false, true, true, false, true, false, true, false] GN h
  have he3 : (Cond.eq (.elem (.field (.string "ForeBook$RuleReader" 118) "java/lang/String" "value" "[B") (.int (Int32.ofNat 3))) (.int 116)).before args s = true := path_of [true, false, true, true, false, true, false, true, true, false] GN h
  have hel : ∀ j, j < 4 → (Term.elem (.field (.string "ForeBook$RuleReader" 118) "java/lang/String" "value" "[B") (.int (Int32.ofNat j))).eval args s none [] s = some (.int ((stB.getD 9 []).getD j 0)) := lt_s (lt_s (lt_s (lt_s (lt_0) (va_eqt he0)) (va_eqt he1)) (va_eqt he2)) (va_eqt he3)
  have hA : ∀ a : Nat, a < s.heap.size → ¬ (fun q : Nat => s.heap.size ≤ q) a := fun a h => Nat.not_le.mpr h
  obtain ⟨t, ht, hT⟩ := va_Tof (f := fun j => .int ((stB.getD 9 []).getD j 0)) (A := fun q : Nat => s.heap.size ≤ q) (N := 4) (by decide) har (va_eqt hle) hel hA
  exact ⟨(a, t), q1, va_eqR (path_of [true, true, true, true, true, true, false, true, false] GN h) q1, ⟨cA, q3, q5, by rw [q6]; exact q2, hA a (Array.getElem?_eq_some_iff.mp q3).1⟩, vk_OFof q1 (va_eqt hco) hA, vk_OFof q1 ht hA, hT⟩
end STA
theorem vwI : ∀ k, k < 13 → Cond.instantiable (vwCl.getD k ("", TX0, 0)).1 (vwCl.getD k ("", TX0, 0)).2.2 ∈ lw_tbl := by decide +kernel
theorem tb_ar : ∀ w ∈ [Cond.arrayClass .int, Cond.arrayClass .byte, Cond.arrayClass .boolean, Cond.arrayClass .long, Cond.arrayOver (.object "ForeBook$Question"), Cond.arrayOver (.object "ForeBook$Guess"), Cond.laysStatic "java/lang/String" "COMPACT_STRINGS" "Z", Cond.laysStatic "jdk/internal/util/Preconditions" "SIOOBE_FORMATTER" "Ljava/util/function/BiFunction;", Cond.laysStatic "java/lang/Throwable" "UNASSIGNED_STACK" "[Ljava/lang/StackTraceElement;", Cond.laysStatic "java/lang/Throwable" "SUPPRESSED_SENTINEL" "Ljava/util/List;", Cond.initialized "java/lang/String", Cond.initialized "jdk/internal/util/Preconditions", Cond.initialized "java/lang/Throwable"], w ∈ lw_tbl := by decide +kernel
theorem st_rR : ∀ i, i < 10 → Cond.stringRef "ForeBook$RuleReader" (stR.getD i 0) (stT.getD i "") ∈ lw_tbl := by decide +kernel
theorem st_rM : ∀ i, i < 10 → Cond.stringRef "ForeBookModel" (stM.getD i 0) (stT.getD i "") ∈ lw_tbl := by decide +kernel
/-- a static that is null or a reference, as a number (0: null) and an address -/
theorem zq_of {C n d : String} {A : Nat → Prop} {U : State} {H : Heap} (h : va_Zq C n d A U H) : ∃ z : Nat × Nat, va_Z C n d (if z.1 = 0 then .null else .ref z.2) A U H := by
  rcases h with h | ⟨t, h⟩
  · exact ⟨(0, 0), h⟩
  · exact ⟨(1, t), h⟩
theorem arr_of {args : Array Value} {s : State} (hts : ∀ w ∈ lw_tbl, w.before args s = true) : ∃ gA : Nat → ClassId, ∀ c : Nat, 20 ≤ c → c ≤ 25 → ArrOfT s (gA c) (aty c) ∧ va_RA s (gA c) (aty c) := by
  have h1 := fun w hw => hts w (tb_ar w hw)
  obtain ⟨c0, k0, m0, a0, b0, d0⟩ := Cond.arrayClass_spec (h1 (.arrayClass .int) (by decide +kernel))
  obtain ⟨c1, k1, m1, a1, b1, d1⟩ := Cond.arrayClass_spec (h1 (.arrayClass .byte) (by decide +kernel))
  obtain ⟨c2, k2, m2, a2, b2, d2⟩ := Cond.arrayClass_spec (h1 (.arrayClass .boolean) (by decide +kernel))
  obtain ⟨c3, k3, m3, a3, b3, d3⟩ := Cond.arrayClass_spec (h1 (.arrayClass .long) (by decide +kernel))
  obtain ⟨m4, c4, k4, e4, f4, b4, d4, a4⟩ := Cond.arrayOver_spec (h1 (.arrayOver (.object "ForeBook$Question")) (by decide +kernel))
  obtain ⟨m5, c5, k5, e5, f5, b5, d5, a5⟩ := Cond.arrayOver_spec (h1 (.arrayOver (.object "ForeBook$Guess")) (by decide +kernel))
  refine ⟨fun c => match c with | 20 => c0 | 21 => c1 | 22 => c2 | 23 => c3 | 24 => c4 | _ => c5, fun c h20 h25 => ?_⟩
  rcases (show c = 20 ∨ c = 21 ∨ c = 22 ∨ c = 23 ∨ c = 24 ∨ c = 25 by omega) with rfl | rfl | rfl | rfl | rfl | rfl
  · exact ⟨fun n z => ⟨fun k h => (by cases h), k0, b0, m0, d0⟩, a0⟩
  · exact ⟨fun n z => ⟨fun k h => (by cases h), k1, b1, m1, d1⟩, a1⟩
  · exact ⟨fun n z => ⟨fun k h => (by cases h), k2, b2, m2, d2⟩, a2⟩
  · exact ⟨fun n z => ⟨fun k h => (by cases h), k3, b3, m3, d3⟩, a3⟩
  · exact ⟨fun n z => ⟨fun k h => (by cases h), k4, b4, m4, d4⟩, k4, m4, b4, d4, e4, a4⟩
  · exact ⟨fun n z => ⟨fun k h => (by cases h), k5, b5, m5, d5⟩, k5, m5, b5, d5, e5, a5⟩
