/-! the law's loop -/
def RulesOK : Prop := ∀ (C D : Sp) (n : Nat) (u : Mem), Inv C D n u → n < 2147483000 → ∃ r u1 u2 C' D', fX10_rules 0 u = some (r, u1) ∧ fX12_rules 55 u1 = some (r, u2) ∧ Inv2 C' D' (n + 1) u1 u2
section LAW
variable {nS m : Nat} {xS : Nat → Int32} {C D : Sp} {u : Mem}
theorem rdX {k : Nat} (hm : m ≤ 512) (hk : k ≤ 5) (hn : 6 * m + k < nS) (hS : nS ≤ 3072) : (if inb (J ((6 * m : Nat) : Int) + J (k : Nat)) nS = true then some (xS (Int32.toNatClampNeg (J ((6 * m : Nat) : Int) + J (k : Nat)))) else none) = some (xS (6 * m + k)) := by
  rw [j_add, show ((6 * m : Nat) : Int) + ((k : Nat) : Int) = ((6 * m + k : Nat) : Int) by omega, j_inb _ _ (by omega) (by omega) (by omega), if_pos rfl, j_nat _ (by omega) (by omega), Int.toNat_natCast]
theorem rd0 (hm : m ≤ 512) (hn : 6 * m < nS) (hS : nS ≤ 3072) : (if inb (J ((6 * m : Nat) : Int)) nS = true then some (xS (Int32.toNatClampNeg (J ((6 * m : Nat) : Int)))) else none) = some (xS (6 * m)) := by
  rw [j_inb _ _ (by omega) (by omega) (by omega), if_pos rfl, j_nat _ (by omega) (by omega), Int.toNat_natCast]
theorem nx6 : J ((6 * m : Nat) : Int) + 6 = J ((6 * (m + 1) : Nat) : Int) := by
  rw [j6, j_add, show ((6 * m : Nat) : Int) + 6 = ((6 * (m + 1) : Nat) : Int) by omega]
theorem lawStep (hR : RulesOK) (hm : m < 512) (hn : 6 * m + 5 < nS) (hS3 : nS ≤ 3072) (I : Inv C D m u) : ∃ u', bL_law_18 nS xS 0 55 (J ((6 * m : Nat) : Int)) u = some (.inl (J ((6 * (m + 1) : Nat) : Int), u')) ∧ ∃ C' D', Inv C' D' (m + 1) u' := by
  have hS := I.1
  have r1 := rdX (xS := xS) (m := m) (k := 1) (nS := nS) (by omega) (by omega) (by omega) hS3
  have r2 := rdX (xS := xS) (m := m) (k := 2) (nS := nS) (by omega) (by omega) (by omega) hS3
  have r3 := rdX (xS := xS) (m := m) (k := 3) (nS := nS) (by omega) (by omega) (by omega) hS3
  have r4 := rdX (xS := xS) (m := m) (k := 4) (nS := nS) (by omega) (by omega) (by omega) hS3
  have r5 := rdX (xS := xS) (m := m) (k := 5) (nS := nS) (by omega) (by omega) (by omega) hS3
  rw [show J ((1 : Nat) : Int) = (1 : Int32) from rfl] at r1
  rw [show J ((2 : Nat) : Int) = (2 : Int32) from rfl] at r2
  rw [show J ((3 : Nat) : Int) = (3 : Int32) from rfl] at r3
  rw [show J ((4 : Nat) : Int) = (4 : Int32) from rfl] at r4
  rw [show J ((5 : Nat) : Int) = (5 : Int32) from rfl] at r5
  have hend : ¬ (Int32.ofNat nS - (6 : Int32) < J ((6 * m : Nat) : Int)) := by
    rw [ofNat_J, j6, j_sub, j_lt _ _ (by omega) (by omega) (by omega) (by omega)]
    omega
  unfold bL_law_18
  rw [if_neg hend, rd0 (by omega) (by omega) hS3, s_some]
  generalize xS (6 * m) &&& (31 : Int32) = w
  obtain ⟨z1, e1, b1, c1⟩ := j_ex (xS (6 * m + 1))
  obtain ⟨z2, e2, b2, c2⟩ := j_ex (xS (6 * m + 2))
  obtain ⟨z3, e3, b3, c3⟩ := j_ex (xS (6 * m + 3))
  obtain ⟨z4, e4, b4, c4⟩ := j_ex (xS (6 * m + 4))
  rw [e1] at r1
  rw [e2] at r2
  rw [e3] at r3
  rw [e4] at r4
  by_cases q0 : w = 0
  · obtain ⟨r, u1, u2, C', D', y1, y2, y3, y4⟩ := c_feed I _ _ _ _ _
    refine ⟨u2, ?_, C', D', y4⟩
    rw [if_pos q0, r1, s_some, r2, s_some, r3, s_some, r4, s_some, r5, s_some, ck_0 hS, y1, s_bnd2, s_some, s_some, s_some, s_some, s_some, ck_55 y3, y2, s_bnd2, if_pos rfl, s_nm, nx6]
  rw [if_neg q0]
  by_cases q1 : w = 1
  · obtain ⟨r, u1, u2, C', D', y1, y2, y3, y4⟩ := c_end I b1 c1
    refine ⟨u2, ?_, C', D', y4⟩
    rw [if_pos q1, r1, s_some, ck_0 hS, y1, s_bnd2, s_some, ck_55 y3, y2, s_bnd2, if_pos rfl, s_nm, nx6]
  rw [if_neg q1]
  by_cases q2 : w = 2
  · obtain ⟨r, u1, u2, C', D', y1, y2, y3, y4⟩ := hR C D m u I (by omega)
    refine ⟨u2, ?_, C', D', y4⟩
    rw [if_pos q2, ck_0 hS, y1, s_bnd2, ck_55 y3, y2, s_bnd2, if_pos rfl, s_nm, nx6]
  rw [if_neg q2]
  by_cases q3 : w = 3
  · obtain ⟨r, y1, y2⟩ := c_fault I b1 c1
    refine ⟨u, ?_, C, D, Inv_le I⟩
    rw [if_pos q3, r1, s_some, ck_0 hS, y1, s_some, s_some, ck_55 hS, y2, s_some, if_pos rfl, s_nm, nx6]
  rw [if_neg q3]
  by_cases q4 : w = 4
  · obtain ⟨r, y1, y2⟩ := c_rule I b1 c1
    refine ⟨u, ?_, C, D, Inv_le I⟩
    rw [if_pos q4, r1, s_some, ck_0 hS, y1, s_some, s_some, ck_55 hS, y2, s_some, if_pos rfl, s_nm, nx6]
  rw [if_neg q4]
  by_cases q5 : w = 5
  · obtain ⟨r, u1, u2, C', D', y1, y2, y3, y4⟩ := c_question I (by omega) b1 c1 b2 c2
    refine ⟨u2, ?_, C', D', y4⟩
    rw [if_pos q5, r1, s_some, r2, s_some, ck_0 hS, y1, s_bnd2, s_some, s_some, ck_55 y3, y2, s_bnd2, if_pos rfl, s_nm, nx6]
  rw [if_neg q5]
  by_cases q6 : w = 6
  · obtain ⟨r, u1, u2, C', D', y1, y2, y3, y4⟩ := c_tell I (by omega) b1 c1 b2 c2 b3 c3
    refine ⟨u2, ?_, C', D', y4⟩
    rw [if_pos q6, r1, s_some, r2, s_some, r3, s_some, ck_0 hS, y1, s_bnd2, s_some, s_some, s_some, ck_55 y3, y2, s_bnd2, if_pos rfl, s_nm, nx6]
  rw [if_neg q6]
  by_cases q7 : w = 7
  · obtain ⟨r, u1, u2, C', D', y1, y2, y3, y4⟩ := c_guess I (by omega) b1 c1 b2 c2 b3 c3 b4 c4
    refine ⟨u2, ?_, C', D', y4⟩
    rw [if_pos q7, r1, s_some, r2, s_some, r3, s_some, r4, s_some, ck_0 hS, y1, s_bnd2, s_some, s_some, s_some, s_some, ck_55 y3, y2, s_bnd2, if_pos rfl, s_nm, nx6]
  rw [if_neg q7]
  by_cases q8 : w = 8
  · obtain ⟨r, y1, y2⟩ := c_holds I b1 c1 b2 c2 b3 c3
    refine ⟨u, ?_, C, D, Inv_le I⟩
    rw [if_pos q8, r1, s_some, r2, s_some, r3, s_some, ck_0 hS, y1, s_some, s_some, s_some, s_some, ck_55 hS, y2, s_some, if_pos rfl, s_nm, nx6]
  rw [if_neg q8]
  by_cases q9 : w = 9
  · obtain ⟨r, u1, u2, C', D', y1, y2, y3, y4⟩ := c_rows I (by omega) b1 c1 b2 c2 b3 c3
    refine ⟨u2, ?_, C', D', y4⟩
    rw [if_pos q9, r1, s_some, r2, s_some, r3, s_some, ck_0 hS, y1, s_bnd2, s_some, s_some, s_some, ck_55 y3, y2, s_bnd2, if_pos rfl, s_nm, nx6]
  rw [if_neg q9]
  by_cases q10 : w = 10
  · obtain ⟨r, u1, u2, C', D', y1, y2, y3, y4⟩ := c_mean I (by omega) b1 c1 b2 c2
    refine ⟨u2, ?_, C', D', y4⟩
    rw [if_pos q10, r1, s_some, r2, s_some, ck_0 hS, y1, s_bnd2, s_some, s_some, ck_55 y3, y2, s_bnd2, if_pos rfl, s_nm, nx6]
  rw [if_neg q10]
  by_cases q11 : w = 11
  · obtain ⟨r, u1, u2, C', D', y1, y2, y3, y4⟩ := c_ranked I (by omega) b1 c1
    refine ⟨u2, ?_, C', D', y4⟩
    rw [if_pos q11, r1, s_some, ck_0 hS, y1, s_bnd2, s_some, ck_55 y3, y2, s_bnd2, if_pos rfl, s_nm, nx6]
  rw [if_neg q11]
  by_cases q12 : w = 12
  · obtain ⟨r, y1, y2⟩ := c_pays I b1 c1
    refine ⟨u, ?_, C, D, Inv_le I⟩
    rw [if_pos q12, r1, s_some, ck_0 hS, y1, s_some, s_some, ck_55 hS, y2, s_some, if_pos rfl, s_nm, nx6]
  rw [if_neg q12]
  by_cases q13 : w = 13
  · obtain ⟨r, y1, y2⟩ := c_honest I
    refine ⟨u, ?_, C, D, Inv_le I⟩
    rw [if_pos q13, ck_0 hS, y1, s_some, ck_55 hS, y2, s_some, if_pos rfl, s_nm, nx6]
  rw [if_neg q13]
  by_cases q14 : w = 14
  · obtain ⟨r, u2, C', D', y1, y2, y4⟩ := c_copies I b1 c1 b2 c2
    refine ⟨u2, ?_, C', D', y4⟩
    rw [if_pos q14, r1, s_some, r2, s_some, ck_0 hS, y1, s_some, s_some, s_some, ck_55 hS, y2, s_bnd2, if_pos rfl, s_nm, nx6]
  rw [if_neg q14]
  by_cases q15 : w = 15
  · obtain ⟨r, u1, u2, C', D', y1, y2, y3, y4⟩ := c_weight I (by omega) b1 c1 b2 c2
    refine ⟨u2, ?_, C', D', y4⟩
    rw [if_pos q15, r1, s_some, r2, s_some, ck_0 hS, y1, s_bnd2, s_some, s_some, ck_55 y3, y2, s_bnd2, if_pos rfl, s_nm, nx6]
  rw [if_neg q15]
  by_cases q16 : w = 16
  · obtain ⟨r, u1, u2, C', D', y1, y2, y3, y4⟩ := c_joined I (by omega) b1 c1 b2 c2
    refine ⟨u2, ?_, C', D', y4⟩
    rw [if_pos q16, r1, s_some, r2, s_some, ck_0 hS, y1, s_bnd2, s_some, s_some, ck_55 y3, y2, s_bnd2, if_pos rfl, s_nm, nx6]
  rw [if_neg q16]
  by_cases q17 : w = 17
  · obtain ⟨r, u1, u2, C', D', y1, y2, y3, y4⟩ := c_together I (by omega) b1 c1 b2 c2
    refine ⟨u2, ?_, C', D', y4⟩
    rw [if_pos q17, r1, s_some, r2, s_some, ck_0 hS, y1, s_bnd2, s_some, s_some, ck_55 y3, y2, s_bnd2, if_pos rfl, s_nm, nx6]
  rw [if_neg q17]
  by_cases q18 : w = 18
  · obtain ⟨r, u1, u2, C', D', y1, y2, y3, y4⟩ := c_luck I (by omega) b1 c1 b2 c2
    refine ⟨u2, ?_, C', D', y4⟩
    rw [if_pos q18, r1, s_some, r2, s_some, ck_0 hS, y1, s_bnd2, s_some, s_some, ck_55 y3, y2, s_bnd2, if_pos ((lg_cmp_eq _ _).mpr rfl), s_nm, nx6]
  rw [if_neg q18]
  by_cases q19 : w = 19
  · obtain ⟨r, u1, u2, C', D', y1, y2, y3, y4⟩ := c_tie I b1 c1 b2 c2 b3 c3
    refine ⟨u2, ?_, C', D', y4⟩
    rw [if_pos q19, r1, s_some, r2, s_some, r3, s_some, ck_0 hS, y1, s_bnd2, s_some, s_some, s_some, ck_55 y3, y2, s_bnd2, if_pos rfl, s_nm, nx6]
  rw [if_neg q19]
  by_cases q20 : w = 20
  · obtain ⟨r, y1, y2⟩ := c_pumps I b1 c1 b2 c2
    refine ⟨u, ?_, C, D, Inv_le I⟩
    rw [if_pos q20, r1, s_some, r2, s_some, ck_0 hS, y1, s_some, s_some, s_some, ck_55 hS, y2, s_some, if_pos rfl, s_nm, nx6]
  rw [if_neg q20]
  by_cases q21 : w = 21
  · obtain ⟨r, u1, u2, C', D', y1, y2, y3, y4⟩ := c_mend I b1 c1 b2 c2 b3 c3
    refine ⟨u2, ?_, C', D', y4⟩
    rw [if_pos q21, r1, s_some, r2, s_some, r3, s_some, ck_0 hS, y1, s_bnd2, s_some, s_some, s_some, ck_55 y3, y2, s_bnd2, if_pos rfl, s_nm, nx6]
  rw [if_neg q21]
  by_cases q22 : w = 22
  · obtain ⟨r, y1, y2⟩ := c_mended I b1 c1
    refine ⟨u, ?_, C, D, Inv_le I⟩
    rw [if_pos q22, r1, s_some, ck_0 hS, y1, s_some, s_some, ck_55 hS, y2, s_some, if_pos rfl, s_nm, nx6]
  rw [if_neg q22]
  by_cases q23 : w = 23
  · obtain ⟨r, y1, y2⟩ := c_about I b1 c1 b2 c2
    refine ⟨u, ?_, C, D, Inv_le I⟩
    rw [if_pos q23, r1, s_some, r2, s_some, ck_0 hS, y1, s_some, s_some, s_some, ck_55 hS, y2, s_some, if_pos rfl, s_nm, nx6]
  rw [if_neg q23]
  by_cases q24 : w = 24
  · obtain ⟨r, u1, u2, C', D', y1, y2, y3, y4⟩ := c_count I (by omega) b1 c1
    refine ⟨u2, ?_, C', D', y4⟩
    rw [if_pos q24, r1, s_some, ck_0 hS, y1, s_bnd2, s_some, ck_55 y3, y2, s_bnd2, if_pos rfl, s_nm, nx6]
  rw [if_neg q24]
  exact ⟨u, by rw [s_nm, nx6], C, D, Inv_le I⟩
theorem law_true (hR : RulesOK) : LawTrue := by
  intro n xs hn
  have e1 : nwc u0 10 8 = some (0, sN u0) := rfl
  have e2 : fX10_init 0 (sN u0) = some vC := iC_ok
  have e3 : nwc vC 12 56 = some (55, sN vC) := by
    unfold nwc
    rw [vC_n]
    rfl
  have e4 : fX12_init 55 (sN vC) = some vM := iM_ok
  have h := lp_inv (f := fun s : Int32 × Mem => bL_law_18 n xs 0 55 s.1 s.2) (E := fun r => ∃ u', r = .inl u' ∧ SH u') (fun m s => s.1 = J ((6 * m : Nat) : Int) ∧ ∃ C D, Inv C D m s.2) (n / 6) (F := FU) (s := ((0 : Int32), vM)) ⟨rfl, C0, C0, Inv_0⟩ ?_ ?_ (FU_gt (by omega))
  · obtain ⟨r, x1, u', x2, x3⟩ := h
    refine ⟨u', ?_, by have := x3.1; omega⟩
    unfold fL_law
    rw [e1, s_bnd2, e2, s_some, e3, s_bnd2, e4, s_some, x1, x2]
    rfl
  · rintro m ⟨s, v⟩ hm ⟨i1, C, D, i2⟩
    simp only at i1 i2
    subst i1
    obtain ⟨u', y1, C', D', y2⟩ := lawStep (xS := xs) hR (m := m) (nS := n) (by omega) (by omega) hn i2
    exact ⟨_, y1, rfl, C', D', y2⟩
  · rintro ⟨s, v⟩ ⟨i1, C, D, i2⟩
    simp only at i1 i2
    subst i1
    refine ⟨.inl v, ?_, v, rfl, i2.1⟩
    show bL_law_18 n xs 0 55 (J ((6 * (n / 6) : Nat) : Int)) v = _
    unfold bL_law_18
    rw [if_pos]
    rw [ofNat_J, j6, j_sub, j_lt _ _ (by omega) (by omega) (by omega) (by omega)]
    omega
end LAW
