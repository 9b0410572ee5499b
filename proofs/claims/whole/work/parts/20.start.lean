/-! THE START: what the Statement gives at the law's entry is the world that the walk needs; the law's function answering 1 gives the claim -/
def u0 : Mem := (fun _ _ => 0, fun _ _ => 0, fun _ _ => none, 0)
/-- what the mathematics must give -/
def LawTrue : Prop := ∀ (n : Nat) (xs : Nat → Int32), n ≤ 3072 → ∃ u' : Mem, fL_law n xs u0 = some (1, u') ∧ mN u' ≤ 1000
theorem KT_le : ∀ n, n ≤ 1000 → KT n ≤ 50000 := by
  have h : KT 1000 ≤ 50000 := by decide +kernel
  exact fun n hn => Nat.le_trans (KT_mono hn) h
def cAt : List Bool → Cond → Cond
  | [], T => T
  | false :: ps, .and a _ => cAt ps a
  | true :: ps, .and _ b => cAt ps b
  | _ :: _, T => T
theorem path_of {args : Array Value} {s : State} : ∀ (ps : List Bool) (T : Cond), T.before args s = true → (cAt ps T).before args s = true := by
  intro ps
  induction ps with
  | nil => intro T h; exact h
  | cons p ps ih =>
    intro T h
    cases T with
    | and a b =>
      rw [Cond.before_and, Bool.and_eq_true] at h
      cases p
      · exact ih a h.1
      · exact ih b h.2
    | _ => cases p <;> exact h
section STA
variable {args : Array Value} {s : State}
abbrev GN : Cond := Jvm.Cond.and given_1 narrow_1
theorem st_0 (h : GN.before args s = true) : ∃ q : Nat × Nat, (Term.string "ForeBook$RuleReader" 81).eval args s none [] s = some (.ref q.1) ∧ (Term.string "ForeBookModel" 72).eval args s none [] s = some (.ref q.1) ∧ StrA q.1 q.2 0 s := by
  obtain ⟨a, c, cA, kA, q1, q2, q3, q4, q5, q6, -⟩ := Cond.exactly_spec (args := args) (first := s) (o := none) (s := s) (idx := []) (t := .string "ForeBook$RuleReader" 81) (cls := "java/lang/String") (path_of [true, false, false, false, true, true, true, true, true, false] GN h)
  have hco : (Cond.eq (.field (.string "ForeBook$RuleReader" 81) "java/lang/String" "coder" "B") (.int 0)).before args s = true := path_of [true, false, false, false, true, true, true, true, true, true] GN h
  have har : (Cond.arrayOf (.field (.string "ForeBook$RuleReader" 81) "java/lang/String" "value" "[B") .byte).before args s = true := path_of [true, false, false, true, false, false, false, false, false] GN h
  have hle : (Cond.eq (.length (.field (.string "ForeBook$RuleReader" 81) "java/lang/String" "value" "[B")) (.int (Int32.ofNat 3))).before args s = true := path_of [true, false, false, true, false, false, false, false, true, false] GN h
  have he0 : (Cond.eq (.elem (.field (.string "ForeBook$RuleReader" 81) "java/lang/String" "value" "[B") (.int (Int32.ofNat 0))) (.int 121)).before args s = true := path_of [true, false, false, true, false, false, false, false, true, true] GN h
  have he1 : (Cond.eq (.elem (.field (.string "ForeBook$RuleReader" 81) "java/lang/String" "value" "[B") (.int (Int32.ofNat 1))) (.int 101)).before args s = true := path_of [true, false, false, true, false, false, false, true, false] GN h
  have he2 : (Cond.eq (.elem (.field (.string "ForeBook$RuleReader" 81) "java/lang/String" "value" "[B") (.int (Int32.ofNat 2))) (.int 115)).before args s = true := path_of [true, false, false, true, false, false, false, true, true, false] GN h
  have hel : ∀ j, j < 3 → (Term.elem (.field (.string "ForeBook$RuleReader" 81) "java/lang/String" "value" "[B") (.int (Int32.ofNat j))).eval args s none [] s = some (.int ((stB.getD 0 []).getD j 0)) := lt_s (lt_s (lt_s (lt_0) (va_eqt he0)) (va_eqt he1)) (va_eqt he2)
  have hA : ∀ a : Nat, a < s.heap.size → ¬ (fun q : Nat => s.heap.size ≤ q) a := fun a h => Nat.not_le.mpr h
  obtain ⟨t, ht, hT⟩ := va_Tof (f := fun j => .int ((stB.getD 0 []).getD j 0)) (A := fun q : Nat => s.heap.size ≤ q) (N := 3) (by decide) har (va_eqt hle) hel hA
  exact ⟨(a, t), q1, va_eqR (path_of [true, false, true, true, true, false, true, false, true, true] GN h) q1, ⟨cA, q3, q5, by rw [q6]; exact q2, hA a (Array.getElem?_eq_some_iff.mp q3).1⟩, vk_OFof q1 (va_eqt hco) hA, vk_OFof q1 ht hA, hT⟩
theorem st_1 (h : GN.before args s = true) : ∃ q : Nat × Nat, (Term.string "ForeBook$RuleReader" 87).eval args s none [] s = some (.ref q.1) ∧ (Term.string "ForeBookModel" 74).eval args s none [] s = some (.ref q.1) ∧ StrA q.1 q.2 1 s := by
  obtain ⟨a, c, cA, kA, q1, q2, q3, q4, q5, q6, -⟩ := Cond.exactly_spec (args := args) (first := s) (o := none) (s := s) (idx := []) (t := .string "ForeBook$RuleReader" 87) (cls := "java/lang/String") (path_of [true, false, false, true, false, false, false, true, true, true] GN h)
  have hco : (Cond.eq (.field (.string "ForeBook$RuleReader" 87) "java/lang/String" "coder" "B") (.int 0)).before args s = true := path_of [true, false, false, true, false, false, true, false, false] GN h
  have har : (Cond.arrayOf (.field (.string "ForeBook$RuleReader" 87) "java/lang/String" "value" "[B") .byte).before args s = true := path_of [true, false, false, true, false, false, true, false, true, false] GN h
  have hle : (Cond.eq (.length (.field (.string "ForeBook$RuleReader" 87) "java/lang/String" "value" "[B")) (.int (Int32.ofNat 2))).before args s = true := path_of [true, false, false, true, false, false, true, false, true, true] GN h
  have he0 : (Cond.eq (.elem (.field (.string "ForeBook$RuleReader" 87) "java/lang/String" "value" "[B") (.int (Int32.ofNat 0))) (.int 110)).before args s = true := path_of [true, false, false, true, false, false, true, true, false] GN h
  have he1 : (Cond.eq (.elem (.field (.string "ForeBook$RuleReader" 87) "java/lang/String" "value" "[B") (.int (Int32.ofNat 1))) (.int 111)).before args s = true := path_of [true, false, false, true, false, false, true, true, true, false] GN h
  have hel : ∀ j, j < 2 → (Term.elem (.field (.string "ForeBook$RuleReader" 87) "java/lang/String" "value" "[B") (.int (Int32.ofNat j))).eval args s none [] s = some (.int ((stB.getD 1 []).getD j 0)) := lt_s (lt_s (lt_0) (va_eqt he0)) (va_eqt he1)
  have hA : ∀ a : Nat, a < s.heap.size → ¬ (fun q : Nat => s.heap.size ≤ q) a := fun a h => Nat.not_le.mpr h
  obtain ⟨t, ht, hT⟩ := va_Tof (f := fun j => .int ((stB.getD 1 []).getD j 0)) (A := fun q : Nat => s.heap.size ≤ q) (N := 2) (by decide) har (va_eqt hle) hel hA
  exact ⟨(a, t), q1, va_eqR (path_of [true, false, true, true, true, true, true, true, true, true] GN h) q1, ⟨cA, q3, q5, by rw [q6]; exact q2, hA a (Array.getElem?_eq_some_iff.mp q3).1⟩, vk_OFof q1 (va_eqt hco) hA, vk_OFof q1 ht hA, hT⟩
theorem st_2 (h : GN.before args s = true) : ∃ q : Nat × Nat, (Term.string "ForeBook$RuleReader" 89).eval args s none [] s = some (.ref q.1) ∧ (Term.string "ForeBookModel" 76).eval args s none [] s = some (.ref q.1) ∧ StrA q.1 q.2 2 s := by
  obtain ⟨a, c, cA, kA, q1, q2, q3, q4, q5, q6, -⟩ := Cond.exactly_spec (args := args) (first := s) (o := none) (s := s) (idx := []) (t := .string "ForeBook$RuleReader" 89) (cls := "java/lang/String") (path_of [true, false, false, true, false, true, false, false, false] GN h)
  have hco : (Cond.eq (.field (.string "ForeBook$RuleReader" 89) "java/lang/String" "coder" "B") (.int 0)).before args s = true := path_of [true, false, false, true, false, true, false, false, true, false] GN h
  have har : (Cond.arrayOf (.field (.string "ForeBook$RuleReader" 89) "java/lang/String" "value" "[B") .byte).before args s = true := path_of [true, false, false, true, false, true, false, false, true, true] GN h
  have hle : (Cond.eq (.length (.field (.string "ForeBook$RuleReader" 89) "java/lang/String" "value" "[B")) (.int (Int32.ofNat 7))).before args s = true := path_of [true, false, false, true, false, true, false, true, false] GN h
  have he0 : (Cond.eq (.elem (.field (.string "ForeBook$RuleReader" 89) "java/lang/String" "value" "[B") (.int (Int32.ofNat 0))) (.int 109)).before args s = true := path_of [true, false, false, true, false, true, false, true, true, false] GN h
  have he1 : (Cond.eq (.elem (.field (.string "ForeBook$RuleReader" 89) "java/lang/String" "value" "[B") (.int (Int32.ofNat 1))) (.int 105)).before args s = true := path_of [true, false, false, true, false, true, false, true, true, true] GN h
  have he2 : (Cond.eq (.elem (.field (.string "ForeBook$RuleReader" 89) "java/lang/String" "value" "[B") (.int (Int32.ofNat 2))) (.int 115)).before args s = true := path_of [true, false, false, true, false, true, true, false, false] GN h
  have he3 : (Cond.eq (.elem (.field (.string "ForeBook$RuleReader" 89) "java/lang/String" "value" "[B") (.int (Int32.ofNat 3))) (.int 115)).before args s = true := path_of [true, false, false, true, false, true, true, false, true, false] GN h
  have he4 : (Cond.eq (.elem (.field (.string "ForeBook$RuleReader" 89) "java/lang/String" "value" "[B") (.int (Int32.ofNat 4))) (.int 105)).before args s = true := path_of [true, false, false, true, false, true, true, false, true, true] GN h
  have he5 : (Cond.eq (.elem (.field (.string "ForeBook$RuleReader" 89) "java/lang/String" "value" "[B") (.int (Int32.ofNat 5))) (.int 110)).before args s = true := path_of [true, false, false, true, false, true, true, true, false, false] GN h
  have he6 : (Cond.eq (.elem (.field (.string "ForeBook$RuleReader" 89) "java/lang/String" "value" "[B") (.int (Int32.ofNat 6))) (.int 103)).before args s = true := path_of [true, false, false, true, false, true, true, true, false, true] GN h
  have hel : ∀ j, j < 7 → (Term.elem (.field (.string "ForeBook$RuleReader" 89) "java/lang/String" "value" "[B") (.int (Int32.ofNat j))).eval args s none [] s = some (.int ((stB.getD 2 []).getD j 0)) := lt_s (lt_s (lt_s (lt_s (lt_s (lt_s (lt_s (lt_0) (va_eqt he0)) (va_eqt he1)) (va_eqt he2)) (va_eqt he3)) (va_eqt he4)) (va_eqt he5)) (va_eqt he6)
  have hA : ∀ a : Nat, a < s.heap.size → ¬ (fun q : Nat => s.heap.size ≤ q) a := fun a h => Nat.not_le.mpr h
  obtain ⟨t, ht, hT⟩ := va_Tof (f := fun j => .int ((stB.getD 2 []).getD j 0)) (A := fun q : Nat => s.heap.size ≤ q) (N := 7) (by decide) har (va_eqt hle) hel hA
  exact ⟨(a, t), q1, va_eqR (path_of [true, true, false, false, false, true, true, true, false, true] GN h) q1, ⟨cA, q3, q5, by rw [q6]; exact q2, hA a (Array.getElem?_eq_some_iff.mp q3).1⟩, vk_OFof q1 (va_eqt hco) hA, vk_OFof q1 ht hA, hT⟩
theorem st_3 (h : GN.before args s = true) : ∃ q : Nat × Nat, (Term.string "ForeBook$RuleReader" 91).eval args s none [] s = some (.ref q.1) ∧ (Term.string "ForeBookModel" 78).eval args s none [] s = some (.ref q.1) ∧ StrA q.1 q.2 3 s := by
  obtain ⟨a, c, cA, kA, q1, q2, q3, q4, q5, q6, -⟩ := Cond.exactly_spec (args := args) (first := s) (o := none) (s := s) (idx := []) (t := .string "ForeBook$RuleReader" 91) (cls := "java/lang/String") (path_of [true, false, false, true, true, false, false, false, false] GN h)
  have hco : (Cond.eq (.field (.string "ForeBook$RuleReader" 91) "java/lang/String" "coder" "B") (.int 0)).before args s = true := path_of [true, false, false, true, true, false, false, false, true, false] GN h
  have har : (Cond.arrayOf (.field (.string "ForeBook$RuleReader" 91) "java/lang/String" "value" "[B") .byte).before args s = true := path_of [true, false, false, true, true, false, false, false, true, true] GN h
  have hle : (Cond.eq (.length (.field (.string "ForeBook$RuleReader" 91) "java/lang/String" "value" "[B")) (.int (Int32.ofNat 7))).before args s = true := path_of [true, false, false, true, true, false, false, true, false] GN h
  have he0 : (Cond.eq (.elem (.field (.string "ForeBook$RuleReader" 91) "java/lang/String" "value" "[B") (.int (Int32.ofNat 0))) (.int 119)).before args s = true := path_of [true, false, false, true, true, false, false, true, true, false] GN h
  have he1 : (Cond.eq (.elem (.field (.string "ForeBook$RuleReader" 91) "java/lang/String" "value" "[B") (.int (Int32.ofNat 1))) (.int 101)).before args s = true := path_of [true, false, false, true, true, false, false, true, true, true] GN h
  have he2 : (Cond.eq (.elem (.field (.string "ForeBook$RuleReader" 91) "java/lang/String" "value" "[B") (.int (Int32.ofNat 2))) (.int 105)).before args s = true := path_of [true, false, false, true, true, false, true, false, false] GN h
  have he3 : (Cond.eq (.elem (.field (.string "ForeBook$RuleReader" 91) "java/lang/String" "value" "[B") (.int (Int32.ofNat 3))) (.int 103)).before args s = true := path_of [true, false, false, true, true, false, true, false, true, false] GN h
  have he4 : (Cond.eq (.elem (.field (.string "ForeBook$RuleReader" 91) "java/lang/String" "value" "[B") (.int (Int32.ofNat 4))) (.int 104)).before args s = true := path_of [true, false, false, true, true, false, true, false, true, true] GN h
  have he5 : (Cond.eq (.elem (.field (.string "ForeBook$RuleReader" 91) "java/lang/String" "value" "[B") (.int (Int32.ofNat 5))) (.int 116)).before args s = true := path_of [true, false, false, true, true, false, true, true, false, false] GN h
  have he6 : (Cond.eq (.elem (.field (.string "ForeBook$RuleReader" 91) "java/lang/String" "value" "[B") (.int (Int32.ofNat 6))) (.int 115)).before args s = true := path_of [true, false, false, true, true, false, true, true, false, true] GN h
  have hel : ∀ j, j < 7 → (Term.elem (.field (.string "ForeBook$RuleReader" 91) "java/lang/String" "value" "[B") (.int (Int32.ofNat j))).eval args s none [] s = some (.int ((stB.getD 3 []).getD j 0)) := lt_s (lt_s (lt_s (lt_s (lt_s (lt_s (lt_s (lt_0) (va_eqt he0)) (va_eqt he1)) (va_eqt he2)) (va_eqt he3)) (va_eqt he4)) (va_eqt he5)) (va_eqt he6)
  have hA : ∀ a : Nat, a < s.heap.size → ¬ (fun q : Nat => s.heap.size ≤ q) a := fun a h => Nat.not_le.mpr h
  obtain ⟨t, ht, hT⟩ := va_Tof (f := fun j => .int ((stB.getD 3 []).getD j 0)) (A := fun q : Nat => s.heap.size ≤ q) (N := 7) (by decide) har (va_eqt hle) hel hA
  exact ⟨(a, t), q1, va_eqR (path_of [true, true, false, false, true, true, true, false, true, true] GN h) q1, ⟨cA, q3, q5, by rw [q6]; exact q2, hA a (Array.getElem?_eq_some_iff.mp q3).1⟩, vk_OFof q1 (va_eqt hco) hA, vk_OFof q1 ht hA, hT⟩
theorem st_4 (h : GN.before args s = true) : ∃ q : Nat × Nat, (Term.string "ForeBook$RuleReader" 93).eval args s none [] s = some (.ref q.1) ∧ (Term.string "ForeBookModel" 80).eval args s none [] s = some (.ref q.1) ∧ StrA q.1 q.2 4 s := by
  obtain ⟨a, c, cA, kA, q1, q2, q3, q4, q5, q6, -⟩ := Cond.exactly_spec (args := args) (first := s) (o := none) (s := s) (idx := []) (t := .string "ForeBook$RuleReader" 93) (cls := "java/lang/String") (path_of [true, false, false, true, true, true, false, false, true, false] GN h)
  have hco : (Cond.eq (.field (.string "ForeBook$RuleReader" 93) "java/lang/String" "coder" "B") (.int 0)).before args s = true := path_of [true, false, false, true, true, true, false, false, true, true] GN h
  have har : (Cond.arrayOf (.field (.string "ForeBook$RuleReader" 93) "java/lang/String" "value" "[B") .byte).before args s = true := path_of [true, false, false, true, true, true, false, true, false] GN h
  have hle : (Cond.eq (.length (.field (.string "ForeBook$RuleReader" 93) "java/lang/String" "value" "[B")) (.int (Int32.ofNat 4))).before args s = true := path_of [true, false, false, true, true, true, false, true, true, false] GN h
  have he0 : (Cond.eq (.elem (.field (.string "ForeBook$RuleReader" 93) "java/lang/String" "value" "[B") (.int (Int32.ofNat 0))) (.int 99)).before args s = true := path_of [true, false, false, true, true, true, false, true, true, true] GN h
  have he1 : (Cond.eq (.elem (.field (.string "ForeBook$RuleReader" 93) "java/lang/String" "value" "[B") (.int (Int32.ofNat 1))) (.int 111)).before args s = true := path_of [true, false, false, true, true, true, true, false, false] GN h
  have he2 : (Cond.eq (.elem (.field (.string "ForeBook$RuleReader" 93) "java/lang/String" "value" "[B") (.int (Int32.ofNat 2))) (.int 112)).before args s = true := path_of [true, false, false, true, true, true, true, false, true, false] GN h
  have he3 : (Cond.eq (.elem (.field (.string "ForeBook$RuleReader" 93) "java/lang/String" "value" "[B") (.int (Int32.ofNat 3))) (.int 121)).before args s = true := path_of [true, false, false, true, true, true, true, false, true, true] GN h
  have hel : ∀ j, j < 4 → (Term.elem (.field (.string "ForeBook$RuleReader" 93) "java/lang/String" "value" "[B") (.int (Int32.ofNat j))).eval args s none [] s = some (.int ((stB.getD 4 []).getD j 0)) := lt_s (lt_s (lt_s (lt_s (lt_0) (va_eqt he0)) (va_eqt he1)) (va_eqt he2)) (va_eqt he3)
  have hA : ∀ a : Nat, a < s.heap.size → ¬ (fun q : Nat => s.heap.size ≤ q) a := fun a h => Nat.not_le.mpr h
  obtain ⟨t, ht, hT⟩ := va_Tof (f := fun j => .int ((stB.getD 4 []).getD j 0)) (A := fun q : Nat => s.heap.size ≤ q) (N := 4) (by decide) har (va_eqt hle) hel hA
  exact ⟨(a, t), q1, va_eqR (path_of [true, true, false, true, false, true, false, true, true, true] GN h) q1, ⟨cA, q3, q5, by rw [q6]; exact q2, hA a (Array.getElem?_eq_some_iff.mp q3).1⟩, vk_OFof q1 (va_eqt hco) hA, vk_OFof q1 ht hA, hT⟩
theorem st_5 (h : GN.before args s = true) : ∃ q : Nat × Nat, (Term.string "ForeBook$RuleReader" 95).eval args s none [] s = some (.ref q.1) ∧ (Term.string "ForeBookModel" 82).eval args s none [] s = some (.ref q.1) ∧ StrA q.1 q.2 5 s := by
  obtain ⟨a, c, cA, kA, q1, q2, q3, q4, q5, q6, -⟩ := Cond.exactly_spec (args := args) (first := s) (o := none) (s := s) (idx := []) (t := .string "ForeBook$RuleReader" 95) (cls := "java/lang/String") (path_of [true, false, true, false, false, false, false, false, false] GN h)
  have hco : (Cond.eq (.field (.string "ForeBook$RuleReader" 95) "java/lang/String" "coder" "B") (.int 0)).before args s = true := path_of [true, false, true, false, false, false, false, false, true, false] GN h
  have har : (Cond.arrayOf (.field (.string "ForeBook$RuleReader" 95) "java/lang/String" "value" "[B") .byte).before args s = true := path_of [true, false, true, false, false, false, false, false, true, true] GN h
  have hle : (Cond.eq (.length (.field (.string "ForeBook$RuleReader" 95) "java/lang/String" "value" "[B")) (.int (Int32.ofNat 5))).before args s = true := path_of [true, false, true, false, false, false, false, true, false] GN h
  have he0 : (Cond.eq (.elem (.field (.string "ForeBook$RuleReader" 95) "java/lang/String" "value" "[B") (.int (Int32.ofNat 0))) (.int 108)).before args s = true := path_of [true, false, true, false, false, false, false, true, true, false] GN h
  have he1 : (Cond.eq (.elem (.field (.string "ForeBook$RuleReader" 95) "java/lang/String" "value" "[B") (.int (Int32.ofNat 1))) (.int 101)).before args s = true := path_of [true, false, true, false, false, false, false, true, true, true] GN h
  have he2 : (Cond.eq (.elem (.field (.string "ForeBook$RuleReader" 95) "java/lang/String" "value" "[B") (.int (Int32.ofNat 2))) (.int 97)).before args s = true := path_of [true, false, true, false, false, false, true, false, false] GN h
  have he3 : (Cond.eq (.elem (.field (.string "ForeBook$RuleReader" 95) "java/lang/String" "value" "[B") (.int (Int32.ofNat 3))) (.int 115)).before args s = true := path_of [true, false, true, false, false, false, true, false, true, false] GN h
  have he4 : (Cond.eq (.elem (.field (.string "ForeBook$RuleReader" 95) "java/lang/String" "value" "[B") (.int (Int32.ofNat 4))) (.int 116)).before args s = true := path_of [true, false, true, false, false, false, true, false, true, true] GN h
  have hel : ∀ j, j < 5 → (Term.elem (.field (.string "ForeBook$RuleReader" 95) "java/lang/String" "value" "[B") (.int (Int32.ofNat j))).eval args s none [] s = some (.int ((stB.getD 5 []).getD j 0)) := lt_s (lt_s (lt_s (lt_s (lt_s (lt_0) (va_eqt he0)) (va_eqt he1)) (va_eqt he2)) (va_eqt he3)) (va_eqt he4)
  have hA : ∀ a : Nat, a < s.heap.size → ¬ (fun q : Nat => s.heap.size ≤ q) a := fun a h => Nat.not_le.mpr h
  obtain ⟨t, ht, hT⟩ := va_Tof (f := fun j => .int ((stB.getD 5 []).getD j 0)) (A := fun q : Nat => s.heap.size ≤ q) (N := 5) (by decide) har (va_eqt hle) hel hA
  exact ⟨(a, t), q1, va_eqR (path_of [true, true, false, true, true, true, false, true, false] GN h) q1, ⟨cA, q3, q5, by rw [q6]; exact q2, hA a (Array.getElem?_eq_some_iff.mp q3).1⟩, vk_OFof q1 (va_eqt hco) hA, vk_OFof q1 ht hA, hT⟩
theorem st_6 (h : GN.before args s = true) : ∃ q : Nat × Nat, (Term.string "ForeBook$RuleReader" 106).eval args s none [] s = some (.ref q.1) ∧ (Term.string "ForeBookModel" 121).eval args s none [] s = some (.ref q.1) ∧ StrA q.1 q.2 6 s := by
  obtain ⟨a, c, cA, kA, q1, q2, q3, q4, q5, q6, -⟩ := Cond.exactly_spec (args := args) (first := s) (o := none) (s := s) (idx := []) (t := .string "ForeBook$RuleReader" 106) (cls := "java/lang/String") (path_of [true, false, true, false, false, true, false, false, true, true] GN h)
  have hco : (Cond.eq (.field (.string "ForeBook$RuleReader" 106) "java/lang/String" "coder" "B") (.int 0)).before args s = true := path_of [true, false, true, false, false, true, false, true, false] GN h
  have har : (Cond.arrayOf (.field (.string "ForeBook$RuleReader" 106) "java/lang/String" "value" "[B") .byte).before args s = true := path_of [true, false, true, false, false, true, false, true, true, false] GN h
  have hle : (Cond.eq (.length (.field (.string "ForeBook$RuleReader" 106) "java/lang/String" "value" "[B")) (.int (Int32.ofNat 4))).before args s = true := path_of [true, false, true, false, false, true, false, true, true, true] GN h
  have he0 : (Cond.eq (.elem (.field (.string "ForeBook$RuleReader" 106) "java/lang/String" "value" "[B") (.int (Int32.ofNat 0))) (.int 115)).before args s = true := path_of [true, false, true, false, false, true, true, false, false] GN h
  have he1 : (Cond.eq (.elem (.field (.string "ForeBook$RuleReader" 106) "java/lang/String" "value" "[B") (.int (Int32.ofNat 1))) (.int 107)).before args s = true := path_of [true, false, true, false, false, true, true, false, true, false] GN h
  have he2 : (Cond.eq (.elem (.field (.string "ForeBook$RuleReader" 106) "java/lang/String" "value" "[B") (.int (Int32.ofNat 2))) (.int 105)).before args s = true := path_of [true, false, true, false, false, true, true, false, true, true] GN h
  have he3 : (Cond.eq (.elem (.field (.string "ForeBook$RuleReader" 106) "java/lang/String" "value" "[B") (.int (Int32.ofNat 3))) (.int 112)).before args s = true := path_of [true, false, true, false, false, true, true, true, false, false] GN h
  have hel : ∀ j, j < 4 → (Term.elem (.field (.string "ForeBook$RuleReader" 106) "java/lang/String" "value" "[B") (.int (Int32.ofNat j))).eval args s none [] s = some (.int ((stB.getD 6 []).getD j 0)) := lt_s (lt_s (lt_s (lt_s (lt_0) (va_eqt he0)) (va_eqt he1)) (va_eqt he2)) (va_eqt he3)
  have hA : ∀ a : Nat, a < s.heap.size → ¬ (fun q : Nat => s.heap.size ≤ q) a := fun a h => Nat.not_le.mpr h
  obtain ⟨t, ht, hT⟩ := va_Tof (f := fun j => .int ((stB.getD 6 []).getD j 0)) (A := fun q : Nat => s.heap.size ≤ q) (N := 4) (by decide) har (va_eqt hle) hel hA
  exact ⟨(a, t), q1, va_eqR (path_of [true, true, true, false, false, true, false, false, true, true] GN h) q1, ⟨cA, q3, q5, by rw [q6]; exact q2, hA a (Array.getElem?_eq_some_iff.mp q3).1⟩, vk_OFof q1 (va_eqt hco) hA, vk_OFof q1 ht hA, hT⟩
theorem st_7 (h : GN.before args s = true) : ∃ q : Nat × Nat, (Term.string "ForeBook$RuleReader" 108).eval args s none [] s = some (.ref q.1) ∧ (Term.string "ForeBookModel" 123).eval args s none [] s = some (.ref q.1) ∧ StrA q.1 q.2 7 s := by
  obtain ⟨a, c, cA, kA, q1, q2, q3, q4, q5, q6, -⟩ := Cond.exactly_spec (args := args) (first := s) (o := none) (s := s) (idx := []) (t := .string "ForeBook$RuleReader" 108) (cls := "java/lang/String") (path_of [true, false, true, false, true, false, false, true, false] GN h)
  have hco : (Cond.eq (.field (.string "ForeBook$RuleReader" 108) "java/lang/String" "coder" "B") (.int 0)).before args s = true := path_of [true, false, true, false, true, false, false, true, true, false] GN h
  have har : (Cond.arrayOf (.field (.string "ForeBook$RuleReader" 108) "java/lang/String" "value" "[B") .byte).before args s = true := path_of [true, false, true, false, true, false, false, true, true, true] GN h
  have hle : (Cond.eq (.length (.field (.string "ForeBook$RuleReader" 108) "java/lang/String" "value" "[B")) (.int (Int32.ofNat 4))).before args s = true := path_of [true, false, true, false, true, false, true, false, false] GN h
  have he0 : (Cond.eq (.elem (.field (.string "ForeBook$RuleReader" 108) "java/lang/String" "value" "[B") (.int (Int32.ofNat 0))) (.int 104)).before args s = true := path_of [true, false, true, false, true, false, true, false, true, false] GN h
  have he1 : (Cond.eq (.elem (.field (.string "ForeBook$RuleReader" 108) "java/lang/String" "value" "[B") (.int (Int32.ofNat 1))) (.int 97)).before args s = true := path_of [true, false, true, false, true, false, true, false, true, true] GN h
  have he2 : (Cond.eq (.elem (.field (.string "ForeBook$RuleReader" 108) "java/lang/String" "value" "[B") (.int (Int32.ofNat 2))) (.int 108)).before args s = true := path_of [true, false, true, false, true, false, true, true, false, false] GN h
  have he3 : (Cond.eq (.elem (.field (.string "ForeBook$RuleReader" 108) "java/lang/String" "value" "[B") (.int (Int32.ofNat 3))) (.int 102)).before args s = true := path_of [true, false, true, false, true, false, true, true, false, true] GN h
  have hel : ∀ j, j < 4 → (Term.elem (.field (.string "ForeBook$RuleReader" 108) "java/lang/String" "value" "[B") (.int (Int32.ofNat j))).eval args s none [] s = some (.int ((stB.getD 7 []).getD j 0)) := lt_s (lt_s (lt_s (lt_s (lt_0) (va_eqt he0)) (va_eqt he1)) (va_eqt he2)) (va_eqt he3)
  have hA : ∀ a : Nat, a < s.heap.size → ¬ (fun q : Nat => s.heap.size ≤ q) a := fun a h => Nat.not_le.mpr h
  obtain ⟨t, ht, hT⟩ := va_Tof (f := fun j => .int ((stB.getD 7 []).getD j 0)) (A := fun q : Nat => s.heap.size ≤ q) (N := 4) (by decide) har (va_eqt hle) hel hA
  exact ⟨(a, t), q1, va_eqR (path_of [true, true, true, false, true, true, false, false, true, false] GN h) q1, ⟨cA, q3, q5, by rw [q6]; exact q2, hA a (Array.getElem?_eq_some_iff.mp q3).1⟩, vk_OFof q1 (va_eqt hco) hA, vk_OFof q1 ht hA, hT⟩
theorem st_8 (h : GN.before args s = true) : ∃ q : Nat × Nat, (Term.string "ForeBook$RuleReader" 116).eval args s none [] s = some (.ref q.1) ∧ (Term.string "ForeBookModel" 129).eval args s none [] s = some (.ref q.1) ∧ StrA q.1 q.2 8 s := by
  obtain ⟨a, c, cA, kA, q1, q2, q3, q4, q5, q6, -⟩ := Cond.exactly_spec (args := args) (first := s) (o := none) (s := s) (idx := []) (t := .string "ForeBook$RuleReader" 116) (cls := "java/lang/String") (path_of [true, false, true, false, true, true, false, true, true, true] GN h)
  have hco : (Cond.eq (.field (.string "ForeBook$RuleReader" 116) "java/lang/String" "coder" "B") (.int 0)).before args s = true := path_of [true, false, true, false, true, true, true, false, false] GN h
  have har : (Cond.arrayOf (.field (.string "ForeBook$RuleReader" 116) "java/lang/String" "value" "[B") .byte).before args s = true := path_of [true, false, true, false, true, true, true, false, true, false] GN h
  have hle : (Cond.eq (.length (.field (.string "ForeBook$RuleReader" 116) "java/lang/String" "value" "[B")) (.int (Int32.ofNat 5))).before args s = true := path_of [true, false, true, false, true, true, true, false, true, true] GN h
  have he0 : (Cond.eq (.elem (.field (.string "ForeBook$RuleReader" 116) "java/lang/String" "value" "[B") (.int (Int32.ofNat 0))) (.int 97)).before args s = true := path_of [true, false, true, false, true, true, true, true, false, false] GN h
  have he1 : (Cond.eq (.elem (.field (.string "ForeBook$RuleReader" 116) "java/lang/String" "value" "[B") (.int (Int32.ofNat 1))) (.int 108)).before args s = true := path_of [true, false, true, false, true, true, true, true, false, true] GN h
  have he2 : (Cond.eq (.elem (.field (.string "ForeBook$RuleReader" 116) "java/lang/String" "value" "[B") (.int (Int32.ofNat 2))) (.int 105)).before args s = true := path_of [true, false, true, false, true, true, true, true, true, false] GN h
  have he3 : (Cond.eq (.elem (.field (.string "ForeBook$RuleReader" 116) "java/lang/String" "value" "[B") (.int (Int32.ofNat 3))) (.int 107)).before args s = true := path_of [true, false, true, false, true, true, true, true, true, true] GN h
  have he4 : (Cond.eq (.elem (.field (.string "ForeBook$RuleReader" 116) "java/lang/String" "value" "[B") (.int (Int32.ofNat 4))) (.int 101)).before args s = true := path_of [true, false, true, true, false, false, false, false, false] GN h
  have hel : ∀ j, j < 5 → (Term.elem (.field (.string "ForeBook$RuleReader" 116) "java/lang/String" "value" "[B") (.int (Int32.ofNat j))).eval args s none [] s = some (.int ((stB.getD 8 []).getD j 0)) := lt_s (lt_s (lt_s (lt_s (lt_s (lt_0) (va_eqt he0)) (va_eqt he1)) (va_eqt he2)) (va_eqt he3)) (va_eqt he4)
  have hA : ∀ a : Nat, a < s.heap.size → ¬ (fun q : Nat => s.heap.size ≤ q) a := fun a h => Nat.not_le.mpr h
  obtain ⟨t, ht, hT⟩ := va_Tof (f := fun j => .int ((stB.getD 8 []).getD j 0)) (A := fun q : Nat => s.heap.size ≤ q) (N := 5) (by decide) har (va_eqt hle) hel hA
  exact ⟨(a, t), q1, va_eqR (path_of [true, true, true, true, false, true, false, false, true, true] GN h) q1, ⟨cA, q3, q5, by rw [q6]; exact q2, hA a (Array.getElem?_eq_some_iff.mp q3).1⟩, vk_OFof q1 (va_eqt hco) hA, vk_OFof q1 ht hA, hT⟩
theorem st_9 (h : GN.before args s = true) : ∃ q : Nat × Nat, (Term.string "ForeBook$RuleReader" 118).eval args s none [] s = some (.ref q.1) ∧ (Term.string "ForeBookModel" 131).eval args s none [] s = some (.ref q.1) ∧ StrA q.1 q.2 9 s := by
  obtain ⟨a, c, cA, kA, q1, q2, q3, q4, q5, q6, -⟩ := Cond.exactly_spec (args := args) (first := s) (o := none) (s := s) (idx := []) (t := .string "ForeBook$RuleReader" 118) (cls := "java/lang/String") (path_of [true, false, true, true, false, false, true, true, false] GN h)
  have hco : (Cond.eq (.field (.string "ForeBook$RuleReader" 118) "java/lang/String" "coder" "B") (.int 0)).before args s = true := path_of [true, false, true, true, false, false, true, true, true, false] GN h
  have har : (Cond.arrayOf (.field (.string "ForeBook$RuleReader" 118) "java/lang/String" "value" "[B") .byte).before args s = true := path_of [true, false, true, true, false, false, true, true, true, true] GN h
  have hle : (Cond.eq (.length (.field (.string "ForeBook$RuleReader" 118) "java/lang/String" "value" "[B")) (.int (Int32.ofNat 4))).before args s = true := path_of [true, false, true, true, false, true, false, false, false] GN h
  have he0 : (Cond.eq (.elem (.field (.string "ForeBook$RuleReader" 118) "java/lang/String" "value" "[B") (.int (Int32.ofNat 0))) (.int 112)).before args s = true := path_of [true, false, true, true, false, true, false, false, true, false] GN h
  have he1 : (Cond.eq (.elem (.field (.string "ForeBook$RuleReader" 118) "java/lang/String" "value" "[B") (.int (Int32.ofNat 1))) (.int 97)).before args s = true := path_of [true, false, true, true, false, true, false, false, true, true] GN h
  have he2 : (Cond.eq (.elem (.field (.string "ForeBook$RuleReader" 118) "java/lang/String" "value" "[B") (.int (Int32.ofNat 2))) (.int 115)).before args s = true := path_of [true, false, true, true, false, true, false, true, false] GN h
  have he3 : (Cond.eq (.elem (.field (.string "ForeBook$RuleReader" 118) "java/lang/String" "value" "[B") (.int (Int32.ofNat 3))) (.int 116)).before args s = true := path_of [true, false, true, true, false, true, false, true, true, false] GN h
  have hel : ∀ j, j < 4 → (Term.elem (.field (.string "ForeBook$RuleReader" 118) "java/lang/String" "value" "[B") (.int (Int32.ofNat j))).eval args s none [] s = some (.int ((stB.getD 9 []).getD j 0)) := lt_s (lt_s (lt_s (lt_s (lt_0) (va_eqt he0)) (va_eqt he1)) (va_eqt he2)) (va_eqt he3)
  have hA : ∀ a : Nat, a < s.heap.size → ¬ (fun q : Nat => s.heap.size ≤ q) a := fun a h => Nat.not_le.mpr h
  obtain ⟨t, ht, hT⟩ := va_Tof (f := fun j => .int ((stB.getD 9 []).getD j 0)) (A := fun q : Nat => s.heap.size ≤ q) (N := 4) (by decide) har (va_eqt hle) hel hA
  exact ⟨(a, t), q1, va_eqR (path_of [true, true, true, true, true, true, false, true, false] GN h) q1, ⟨cA, q3, q5, by rw [q6]; exact q2, hA a (Array.getElem?_eq_some_iff.mp q3).1⟩, vk_OFof q1 (va_eqt hco) hA, vk_OFof q1 ht hA, hT⟩
end STA
theorem vwI : ∀ k, k < 13 → Cond.instantiable (vwCl.getD k ("", TX0, 0)).1 (vwCl.getD k ("", TX0, 0)).2.2 ∈ lw_tbl := by decide +kernel
theorem tb_ar : ∀ w ∈ [Cond.arrayClass .int, Cond.arrayClass .byte, Cond.arrayClass .boolean, Cond.arrayClass .long, Cond.arrayOver (.object "ForeBook$Question"), Cond.arrayOver (.object "ForeBook$Guess"), Cond.laysStatic "java/lang/String" "COMPACT_STRINGS" "Z", Cond.laysStatic "jdk/internal/util/Preconditions" "SIOOBE_FORMATTER" "Ljava/util/function/BiFunction;", Cond.laysStatic "java/lang/Throwable" "UNASSIGNED_STACK" "[Ljava/lang/StackTraceElement;", Cond.laysStatic "java/lang/Throwable" "SUPPRESSED_SENTINEL" "Ljava/util/List;", Cond.initialized "java/lang/String", Cond.initialized "jdk/internal/util/Preconditions", Cond.initialized "java/lang/Throwable"], w ∈ lw_tbl := by decide +kernel
theorem st_rR : ∀ i, i < 10 → Cond.stringRef "ForeBook$RuleReader" (stR.getD i 0) (stT.getD i "") ∈ lw_tbl := by decide +kernel
theorem st_rM : ∀ i, i < 10 → Cond.stringRef "ForeBookModel" (stM.getD i 0) (stT.getD i "") ∈ lw_tbl := by decide +kernel
/-- a static that is null or a reference, as a number (0: null) and an address -/
theorem zq_of {C n d : String} {A : Nat → Prop} {U : State} {H : Heap} (h : va_Zq C n d A U H) : ∃ z : Nat × Nat, va_Z C n d (if z.1 = 0 then .null else .ref z.2) A U H := by
  rcases h with h | ⟨t, h⟩
  · exact ⟨(0, 0), h⟩
  · exact ⟨(1, t), h⟩
theorem arr_of {args : Array Value} {s : State} (hts : ∀ w ∈ lw_tbl, w.before args s = true) : ∃ gA : Nat → ClassId, ∀ c : Nat, 20 ≤ c → c ≤ 25 → ArrOfT s (gA c) (aty c) ∧ va_RA s (gA c) (aty c) := by
  have h1 := fun w hw => hts w (tb_ar w hw)
  obtain ⟨c0, k0, m0, a0, b0, d0⟩ := Cond.arrayClass_spec (h1 (.arrayClass .int) (by decide +kernel))
  obtain ⟨c1, k1, m1, a1, b1, d1⟩ := Cond.arrayClass_spec (h1 (.arrayClass .byte) (by decide +kernel))
  obtain ⟨c2, k2, m2, a2, b2, d2⟩ := Cond.arrayClass_spec (h1 (.arrayClass .boolean) (by decide +kernel))
  obtain ⟨c3, k3, m3, a3, b3, d3⟩ := Cond.arrayClass_spec (h1 (.arrayClass .long) (by decide +kernel))
  obtain ⟨m4, c4, k4, e4, f4, b4, d4, a4⟩ := Cond.arrayOver_spec (h1 (.arrayOver (.object "ForeBook$Question")) (by decide +kernel))
  obtain ⟨m5, c5, k5, e5, f5, b5, d5, a5⟩ := Cond.arrayOver_spec (h1 (.arrayOver (.object "ForeBook$Guess")) (by decide +kernel))
  refine ⟨fun c => match c with | 20 => c0 | 21 => c1 | 22 => c2 | 23 => c3 | 24 => c4 | _ => c5, fun c h20 h25 => ?_⟩
  rcases (show c = 20 ∨ c = 21 ∨ c = 22 ∨ c = 23 ∨ c = 24 ∨ c = 25 by omega) with rfl | rfl | rfl | rfl | rfl | rfl
  · exact ⟨fun n z => ⟨fun k h => (by cases h), k0, b0, m0, d0⟩, a0⟩
  · exact ⟨fun n z => ⟨fun k h => (by cases h), k1, b1, m1, d1⟩, a1⟩
  · exact ⟨fun n z => ⟨fun k h => (by cases h), k2, b2, m2, d2⟩, a2⟩
  · exact ⟨fun n z => ⟨fun k h => (by cases h), k3, b3, m3, d3⟩, a3⟩
  · exact ⟨fun n z => ⟨fun k h => (by cases h), k4, b4, m4, d4⟩, k4, m4, b4, d4, e4, a4⟩
  · exact ⟨fun n z => ⟨fun k h => (by cases h), k5, b5, m5, d5⟩, k5, m5, b5, d5, e5, a5⟩
def R_law : String := "ForeBookLaw"
def lw_P (b : Addr) (xs : List Int32) (args : Array Value) (s : State) : Prop := args = #[.ref b] ∧ s.IntsAt b xs ∧ xs.length ≤ 3072 ∧ (Jvm.Cond.and given_1 narrow_1).before args s = true
def lw_Q (_ : Array Value) (s : State) (o : Outcome) (t : State) : Prop := o = .returned (some (.int 1)) ∧ Framed s o t [] 601024 7293033
def lw_Z (below : List Frame) (a : Array Value) (s : State) : State → Prop := fun t => ∃ o, t.status = .running ∧ Ended t below o ∧ lw_Q a s o t
/-- the law's own end, with 1 on the stack, nothing written that was there before, its room as the claim has it -/
theorem lw_ret {p : Program} {l : Launch} {e : Env} {s : State} {m : MethodId} {below : List Frame} {meth : Method} {c : Code} {b : Nat} (hx : p.tables.exec = Jvm.exec) (hb : c.code = code) (hr : meth.sig.returnType = ret) (hlocks : meth.locks = false) {pc : Nat} {H : Heap} {ls : Array Slot} (hdg : decode code pc = .ok (.ireturn, 1)) : W p l e room_1 s m #[Value.ref b] below meth c H [] 601024 7293033 (lw_Z below #[Value.ref b] s) (F0 m pc ls [.int 1]) := by
  intro T hT X
  obtain ⟨fs, hret, hrun, hended, hW, hframe⟩ := X.leave (v := some (.int 1)) (hlocks := hlocks) (fun h => by rw [hr] at h; cases h)
  have hmeth' : T.vm.method? m = some meth := X.method'
  refine ⟨T.setFrames fs, ?_, .returned (some (.int 1)), hrun, hended, rfl, ⟨_, rfl⟩, hW, hframe⟩
  jvm_step X.here [X.here.top, hx, hb, hdg, hmeth', hr, ret, narrow_b1]
  (try refine ⟨rfl, ?_⟩); (try refine ⟨rfl, ?_⟩)
  first | (intro acts; rw [hret _ acts rfl rfl rfl]) | rw [hret _ _ rfl rfl rfl]
  exact Steps.refl _
/-- what holds at the law's entry: the machine, the code, the tables' words (any of lw_tbl by 'hts w (by decide +kernel)'), the script of L ints xs at the cell b, what the Statement gives of the start (any of its parts by flat_of_before) -/
def lw_At (p : Program) (s : State) (m : MethodId) (meth : Method) (c : Code) (b L : Nat) (xs : Nat → Int32) : Prop :=
  p.tables.exec = Jvm.exec ∧ c.code = code ∧ meth.sig.returnType = ret ∧ c.maxLocals = 4 ∧ s.vm.findClass R_law = some m.cls ∧ (∀ w ∈ lw_tbl, w.before #[Value.ref b] s = true) ∧ va_X b L xs s s.heap ∧ b < s.heap.size ∧ meth.locks = false ∧ (Jvm.Cond.and given_1 narrow_1).before #[Value.ref b] s = true

theorem cls_of {args : Array Value} {s : State} (hts : ∀ w ∈ lw_tbl, w.before args s = true) : ∃ D : va_G, ∀ (ci : Nat) (q : vw_C), vwCl[ci]? = some q → u_Kn s q.1 q.2.1 q.2.2 (D.1 ci) (D.2 ci) := by
  have hg : ∀ w ∈ lw_g, w.before args s = true := fun w hw => hts w (lw_g_in w hw)
  have one : ∀ {ci : Nat} {C : String} {T : u_T} {N : Nat}, clsOK ci C T N → Cond.instantiable C N ∈ lw_tbl → ∃ d : ClassId × (Nat → Nat), ∀ q : vw_C, vwCl[ci]? = some q → u_Kn s q.1 q.2.1 q.2.2 d.1 d.2 := by
    intro ci C T N ok hi
    obtain ⟨cC, iS, h⟩ := u_known hg ok.2.2.1 (hts _ hi)
    refine ⟨(cC, iS), fun q hq => ?_⟩
    rw [ok.2.1] at hq
    cases hq
    exact h
  obtain ⟨d0, -⟩ := one okX0 (vwI 0 (by decide))
  have h : ∀ ci : Nat, ∃ d : ClassId × (Nat → Nat), ∀ q : vw_C, vwCl[ci]? = some q → u_Kn s q.1 q.2.1 q.2.2 d.1 d.2 := by
    intro ci
    by_cases hci : ci < 13
    · rcases (show ci = 0 ∨ ci = 1 ∨ ci = 2 ∨ ci = 3 ∨ ci = 4 ∨ ci = 5 ∨ ci = 6 ∨ ci = 7 ∨ ci = 8 ∨ ci = 9 ∨ ci = 10 ∨ ci = 11 ∨ ci = 12 by omega) with rfl | rfl | rfl | rfl | rfl | rfl | rfl | rfl | rfl | rfl | rfl | rfl | rfl
      · exact one okX0 (vwI 0 (by decide))
      · exact one okX1 (vwI 1 (by decide))
      · exact one okX2 (vwI 2 (by decide))
      · exact one okX3 (vwI 3 (by decide))
      · exact one okX4 (vwI 4 (by decide))
      · exact one okX5 (vwI 5 (by decide))
      · exact one okX6 (vwI 6 (by decide))
      · exact one okX7 (vwI 7 (by decide))
      · exact one okX8 (vwI 8 (by decide))
      · exact one okX9 (vwI 9 (by decide))
      · exact one okX10 (vwI 10 (by decide))
      · exact one okX11 (vwI 11 (by decide))
      · exact one okX12 (vwI 12 (by decide))
    · refine ⟨d0, fun q hq => ?_⟩
      rw [List.getElem?_eq_none (by show 13 ≤ ci; omega)] at hq
      cases hq
  obtain ⟨f, hf⟩ := Classical.axiomOfChoice h
  exact ⟨(fun i => (f i).1, fun i => (f i).2), fun ci q hq => hf ci q hq⟩
theorem strs_of {args : Array Value} {s : State} (h : GN.before args s = true) : ∃ f : Nat → Nat × Nat, ∀ i, i < 10 → (Term.string "ForeBook$RuleReader" (stR.getD i 0)).eval args s none [] s = some (.ref (f i).1) ∧ (Term.string "ForeBookModel" (stM.getD i 0)).eval args s none [] s = some (.ref (f i).1) ∧ StrA (f i).1 (f i).2 i s := by
  have one : ∀ i : Nat, ∃ q : Nat × Nat, i < 10 → (Term.string "ForeBook$RuleReader" (stR.getD i 0)).eval args s none [] s = some (.ref q.1) ∧ (Term.string "ForeBookModel" (stM.getD i 0)).eval args s none [] s = some (.ref q.1) ∧ StrA q.1 q.2 i s := by
    intro i
    by_cases hi : i < 10
    · rcases (show i = 0 ∨ i = 1 ∨ i = 2 ∨ i = 3 ∨ i = 4 ∨ i = 5 ∨ i = 6 ∨ i = 7 ∨ i = 8 ∨ i = 9 by omega) with rfl | rfl | rfl | rfl | rfl | rfl | rfl | rfl | rfl | rfl
      · obtain ⟨q, hq⟩ := st_0 h; exact ⟨q, fun _ => hq⟩
      · obtain ⟨q, hq⟩ := st_1 h; exact ⟨q, fun _ => hq⟩
      · obtain ⟨q, hq⟩ := st_2 h; exact ⟨q, fun _ => hq⟩
      · obtain ⟨q, hq⟩ := st_3 h; exact ⟨q, fun _ => hq⟩
      · obtain ⟨q, hq⟩ := st_4 h; exact ⟨q, fun _ => hq⟩
      · obtain ⟨q, hq⟩ := st_5 h; exact ⟨q, fun _ => hq⟩
      · obtain ⟨q, hq⟩ := st_6 h; exact ⟨q, fun _ => hq⟩
      · obtain ⟨q, hq⟩ := st_7 h; exact ⟨q, fun _ => hq⟩
      · obtain ⟨q, hq⟩ := st_8 h; exact ⟨q, fun _ => hq⟩
      · obtain ⟨q, hq⟩ := st_9 h; exact ⟨q, fun _ => hq⟩
    · exact ⟨(0, 0), fun h => absurd h hi⟩
  obtain ⟨f, hf⟩ := Classical.axiomOfChoice one
  exact ⟨f, hf⟩
def mkX (f : Nat → Nat × Nat) (b a0 a1 a2 : Nat) : Nat → Nat := fun i => if i < 10 then (f i).1 else if i = 50 then b else if i = 60 then a0 else if i = 61 then a1 else if i = 62 then a2 else (f (i - 100)).2
def mkV (z0 z1 z2 : Nat) : Nat → Nat := fun k => if k = 0 then z0 else if k = 1 then z1 else z2
theorem exs_v (G : Gt) (k a : Nat) (h : gX G (60 + k) = a) : gv G (rv (exs G k)) = if gV G k = 0 then .null else .ref a := by
  unfold exs
  by_cases h0 : gV G k = 0
  · rw [if_pos h0, if_pos h0]; rfl
  · rw [if_neg h0, if_neg h0]
    show Value.ref (gr G (1000000 + (60 + k))) = _
    unfold gr
    rw [if_neg (by omega), Nat.add_sub_cancel_left, h]
theorem wd_of {s : State} {b L : Nat} {xs : Nat → Int32} {args : Array Value} (hts : ∀ w ∈ lw_tbl, w.before args s = true) (hX : va_X b L xs s s.heap) (hbl : b < s.heap.size) (hgv : GN.before args s = true) : ∃ G : Gt, Wd G s ∧ gB G = s.heap.size ∧ gX G 50 = b ∧ gLn G = L ∧ gXs G = xs := by
  obtain ⟨D, hD⟩ := cls_of hts
  obtain ⟨gA, hA⟩ := arr_of hts
  obtain ⟨f, hf⟩ := strs_of hgv
  have h1 := fun w hw => hts w (tb_ar w hw)
  have hN : ∀ a : Nat, a < s.heap.size → ¬ (fun q : Nat => s.heap.size ≤ q) a := fun a h => Nat.not_le.mpr h
  have p0 : (Cond.eq (.static "java/lang/String" "COMPACT_STRINGS" "Z") (.int 1)).before args s = true := path_of [true, false, false, false, false, false, false, false, true, true] GN hgv
  have p1 : (Cond.isRef (.static "jdk/internal/util/Preconditions" "SIOOBE_FORMATTER" "Ljava/util/function/BiFunction;")).before args s = true := path_of [true, false, false, false, false, false, false, true, false] GN hgv
  have p2 : (Cond.isRef (.static "java/lang/Throwable" "UNASSIGNED_STACK" "[Ljava/lang/StackTraceElement;")).before args s = true := path_of [true, false, false, false, false, false, true, false, true, false] GN hgv
  have p3 : (Cond.isRef (.static "java/lang/Throwable" "SUPPRESSED_SENTINEL" "Ljava/util/List;")).before args s = true := path_of [true, false, false, false, false, false, true, false, true, true] GN hgv
  have z : va_Z "java/lang/String" "COMPACT_STRINGS" "Z" (.int 1) (fun q : Nat => s.heap.size ≤ q) s s.heap := va_Zof (h1 (.laysStatic "java/lang/String" "COMPACT_STRINGS" "Z") (by decide +kernel)) (h1 (.initialized "java/lang/String") (by decide +kernel)) (va_eqt p0) hN
  obtain ⟨z0, hz0⟩ := zq_of (va_Zqof (h1 (.laysStatic "jdk/internal/util/Preconditions" "SIOOBE_FORMATTER" "Ljava/util/function/BiFunction;") (by decide +kernel)) (h1 (.initialized "jdk/internal/util/Preconditions") (by decide +kernel)) p1 hN)
  obtain ⟨z1, hz1⟩ := zq_of (va_Zqof (h1 (.laysStatic "java/lang/Throwable" "UNASSIGNED_STACK" "[Ljava/lang/StackTraceElement;") (by decide +kernel)) (h1 (.initialized "java/lang/Throwable") (by decide +kernel)) p2 hN)
  obtain ⟨z2, hz2⟩ := zq_of (va_Zqof (h1 (.laysStatic "java/lang/Throwable" "SUPPRESSED_SENTINEL" "Ljava/util/List;") (by decide +kernel)) (h1 (.initialized "java/lang/Throwable") (by decide +kernel)) p3 hN)
  have e1 : ∀ i, i < 10 → mkX f b z0.2 z1.2 z2.2 i = (f i).1 := fun i hi => if_pos hi
  have e2 : ∀ i, i < 10 → mkX f b z0.2 z1.2 z2.2 (100 + i) = (f i).2 := fun i hi => by
    unfold mkX
    rw [if_neg (by omega), if_neg (by omega), if_neg (by omega), if_neg (by omega), if_neg (by omega), Nat.add_sub_cancel_left]
  refine ⟨(D, gA, s.heap.size, mkX f b z0.2 z1.2 z2.2, mkV z0.1 z1.1 z2.1, L, xs), ⟨hD, hA, ⟨⟨fun i hi => ?_, fun i hi => ?_, z, ?_, ?_, ?_, hX, hbl⟩, fun q hq => va_Nw.of rfl (hts _ (nestL_in q hq)), va_AO.of (h1 (.arrayOver (.object "ForeBook$Question")) (by decide +kernel)), va_AO.of (h1 (.arrayOver (.object "ForeBook$Guess")) (by decide +kernel))⟩, Nat.le_refl _⟩, rfl, rfl, rfl, rfl⟩
  · show StrB (mkX f b z0.2 z1.2 z2.2 i) (mkX f b z0.2 z1.2 z2.2 (100 + i)) i _ s s.heap
    rw [e1 i hi, e2 i hi]
    exact (hf i hi).2.2
  · show vk_R _ _ _ (mkX f b z0.2 z1.2 z2.2 i) s ∧ vk_R _ _ _ (mkX f b z0.2 z1.2 z2.2 i) s
    rw [e1 i hi]
    exact ⟨vk_R.of (hts _ (st_rR i hi)) (hf i hi).1, vk_R.of (hts _ (st_rM i hi)) (hf i hi).2.1⟩
  · rw [exs_v _ 0 z0.2 rfl]; exact hz0
  · rw [exs_v _ 1 z1.2 rfl]; exact hz1
  · rw [exs_v _ 2 z2.2 rfl]; exact hz2
/-- the claim's walk, out of the mathematics -/
theorem whole_from (LT : LawTrue) {p : Program} {e : Env} {s : State} {m : MethodId} {below : List Frame} {meth : Method} {c : Code} (l : Launch) {b L : Nat} {xs : Nat → Int32} (hL : L ≤ 3072) (C0 : lw_At p s m meth c b L xs) : W p l e room_1 s m #[Value.ref b] below meth c s.heap [] 0 0 (lw_Z below #[Value.ref b] s) (entryFrame m ([Value.ref b] : List Value).toArray 4) := by
  obtain ⟨hx, hb, hr, hml, hown, hts, hX, hbl, hlocks, hgv⟩ := C0
  have hg : ∀ w ∈ lw_g, w.before #[Value.ref b] s = true := fun w hw => hts w (lw_g_in w hw)
  obtain ⟨G, hW, hB, rfl, rfl, rfl⟩ := wd_of hts hX hbl hgv
  obtain ⟨u', hu, hm⟩ := LT _ _ hL
  have hM : MemAt G u0 s.heap := ⟨by rw [hB]; rfl, Nat.zero_le _, fun a ha => absurd ha (Nat.not_lt_zero a)⟩
  have hent := lv_entry ([rv (some 1000050)].map (gv G)) (n := 4) (by rw [lg_sl_gv]; decide)
  rw [lg_entry_eq]
  have ee : [rv (some 1000050)].map (gv G) = [Value.ref (gX G 50)] := rfl
  rw [lv_args_gv, ee] at hent
  generalize (lg_sl [Value.ref (gX G 50)] ++ List.replicate (4 - (lg_sl [Value.ref (gX G 50)]).length) Slot.unset).toArray = ls at hent ⊢
  have hK := KT_le _ hm
  have h2 := (tL_law (l := l) (G := G) (d := 0) hu).2 p e room_1 s m #[Value.ref (gX G 50)] below meth c s.heap [] 0 0 ls
    ⟨hx, hb, hml, hr, hlocks, fun h => absurd h (by decide), hown, hg, hW, by decide, by decide, fun hh e => by
      have h0 : XT x = none := by decide +kernel
      have h1 := h0.symm.trans e
      cases h1⟩
    hent hM va_S.rf (by show 0 + (mN u' - 0) ≤ 601024; omega) (by show 0 + (KT (mN u') - KT 0) ≤ 7293033; omega)
  intro T hT X
  obtain ⟨t, a1, o, r1, r2, r3, LL, r4, r5⟩ := h2 T hT X
  refine ⟨t, a1, o, r1, r2, r3.1, r4.1, r4.2.1, r4.2.2.weaken (fun q hq hlt => ?_) (by show 0 + (mN u' - 0) ≤ 601024; omega) (by show 0 + (KT (mN u') - KT 0) ≤ 7293033; omega)⟩
  have h5 : gB G ≤ q.base := r5 q hq
  rw [hB] at h5
  exact absurd hlt (Nat.not_lt.mpr h5)
