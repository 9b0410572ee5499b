/-! bits of a set -/
def bt (n q : Nat) : Nat := n / 2 ^ q % 2
theorem bt_le (n q : Nat) : bt n q ≤ 1 := by unfold bt; omega
theorem J_nI (n : Nat) : J (n : Nat) = nI n := (ofNat_J n).symm
theorem s_lJ : ∀ q : Nat, q < 32 → ((J (q : Nat) &&& J 31).toBitVec.smod 32).toNat = q := by decide +kernel
theorem shrJ (n q : Nat) (hn : n < 2147483648) (hq : q < 32) : J (n : Nat) >>> (J (q : Nat) &&& J 31) = J ((n / 2 ^ q : Nat) : Int) := by
  rw [J_nI n, J_nI (n / 2 ^ q)]
  exact pk_shrN (by omega) _ q (s_lJ q hq)
theorem and1J (n : Nat) (hn : n < 2147483648) : J (n : Nat) &&& J 1 = J ((n % 2 : Nat) : Int) := by
  rw [J_nI n, J_nI (n % 2)]
  exact pk_andN (by omega) 1 rfl
theorem bitJ (n q : Nat) (hn : n < 2147483648) (hq : q < 32) : (J (n : Nat) >>> (J (q : Nat) &&& J 31)) &&& J 1 = J (bt n q : Nat) := by
  have h : n / 2 ^ q ≤ n := Nat.div_le_self _ _
  rw [shrJ n q hn hq, and1J _ (by omega)]
  rfl
theorem andJ (a b : Nat) : J (a : Nat) &&& J (b : Nat) = J ((a &&& b : Nat) : Int) := by
  rw [J_nI a, J_nI b, J_nI (a &&& b)]
  unfold nI
  apply Int32.toBitVec.inj
  simp
theorem ushrJ1 (n : Nat) (hn : n < 2147483648) : ((J (n : Nat)).toUInt32 >>> (Int32.toUInt32 (1 : Int32) &&& Int32.toUInt32 31)).toInt32 = J ((n / 2 : Nat) : Int) := by
  rw [J_nI n, J_nI (n / 2)]
  exact pk_ushrN (by omega) (1 : Int32) 1 rfl
theorem ushrJ2 (n : Nat) (hn : n < 2147483648) : ((J (n : Nat)).toUInt32 >>> (Int32.toUInt32 (2 : Int32) &&& Int32.toUInt32 31)).toInt32 = J ((n / 4 : Nat) : Int) := by
  rw [J_nI n, J_nI (n / 4)]
  exact pk_ushrN (by omega) (2 : Int32) 2 rfl
theorem ushrJ4 (n : Nat) (hn : n < 2147483648) : ((J (n : Nat)).toUInt32 >>> (Int32.toUInt32 (4 : Int32) &&& Int32.toUInt32 31)).toInt32 = J ((n / 16 : Nat) : Int) := by
  rw [J_nI n, J_nI (n / 16)]
  exact pk_ushrN (by omega) (4 : Int32) 4 rfl
theorem ushrJ8 (n : Nat) (hn : n < 2147483648) : ((J (n : Nat)).toUInt32 >>> (Int32.toUInt32 (8 : Int32) &&& Int32.toUInt32 31)).toInt32 = J ((n / 256 : Nat) : Int) := by
  rw [J_nI n, J_nI (n / 256)]
  exact pk_ushrN (by omega) (8 : Int32) 8 rfl
theorem ushrJ16 (n : Nat) (hn : n < 2147483648) : ((J (n : Nat)).toUInt32 >>> (Int32.toUInt32 (16 : Int32) &&& Int32.toUInt32 31)).toInt32 = J ((n / 65536 : Nat) : Int) := by
  rw [J_nI n, J_nI (n / 65536)]
  exact pk_ushrN (by omega) (16 : Int32) 16 rfl
theorem landH (r a s b : Nat) (hr : r < 16) (hs : s < 16) : (r + 16 * a) &&& (s + 16 * b) = (r &&& s) + 16 * (a &&& b) := by
  have h1 : ((r + 16 * a) &&& (s + 16 * b)) % 2 ^ 4 = ((r + 16 * a) % 2 ^ 4) &&& ((s + 16 * b) % 2 ^ 4) := Nat.and_mod_two_pow
  have h2 : ((r + 16 * a) &&& (s + 16 * b)) / 2 ^ 4 = ((r + 16 * a) / 2 ^ 4) &&& ((s + 16 * b) / 2 ^ 4) := Nat.and_div_two_pow
  rw [show (r + 16 * a) % 2 ^ 4 = r by omega, show (s + 16 * b) % 2 ^ 4 = s by omega] at h1
  rw [show (r + 16 * a) / 2 ^ 4 = a by omega, show (s + 16 * b) / 2 ^ 4 = b by omega] at h2
  omega
/-- a mask of equal hex digits over five digits -/
theorem mask5 (s M M1 M2 M3 M4 M5 : Nat) (e1 : M = s + 16 * M1) (e2 : M1 = s + 16 * M2) (e3 : M2 = s + 16 * M3) (e4 : M3 = s + 16 * M4) (e5 : M4 = s + 16 * M5) (hs : s < 16) {r0 r1 r2 r3 r4 : Nat} (h0 : r0 < 16) (h1 : r1 < 16) (h2 : r2 < 16) (h3 : r3 < 16) (h4 : r4 < 16) : (r0 + 16 * (r1 + 16 * (r2 + 16 * (r3 + 16 * r4)))) &&& M = (r0 &&& s) + 16 * ((r1 &&& s) + 16 * ((r2 &&& s) + 16 * ((r3 &&& s) + 16 * (r4 &&& s)))) := by
  rw [e1, landH _ _ _ _ h0 hs, e2, landH _ _ _ _ h1 hs, e3, landH _ _ _ _ h2 hs, e4, landH _ _ _ _ h3 hs, e5]
  have h := landH r4 0 s M5 h4 hs
  rw [show r4 + 16 * 0 = r4 by omega, Nat.zero_and, Nat.mul_zero, Nat.add_zero] at h
  rw [h]
def al4 (h : Nat) : Nat := h / 2 % 2 + 4 * (h / 8)
def po4 (h : Nat) : Nat := h % 2 + h / 2 % 2 + h / 4 % 2 + h / 8
theorem and5 : ∀ h : Nat, h < 16 → ∀ e : Nat, e < 2 → (h / 2 + 8 * e) &&& 5 = al4 h := by decide
theorem and3 : ∀ y : Nat, y < 16 → y &&& 3 = y % 4 := by decide
theorem and33 : ∀ a : Nat, a < 4 → ∀ e : Nat, e < 4 → (a + 4 * e) &&& 3 = a := by decide
theorem po4_eq : ∀ h : Nat, h < 16 → al4 h ≤ h ∧ h - al4 h ≤ 10 ∧ (h - al4 h) % 4 + (h - al4 h) / 4 = po4 h ∧ (h - al4 h) / 4 < 4 := by decide
theorem half16 (h m : Nat) : (h + 16 * m) / 2 = (h / 2 + 8 * (m % 2)) + 16 * (m / 2) := by omega
theorem mod16 (h m : Nat) : (h + 16 * m) % 2 = h % 2 := by omega
theorem quar16 (h m : Nat) : (h + 16 * m) / 4 = (h / 4 + 4 * (m % 4)) + 16 * (m / 4) := by omega
theorem mod164 (h m : Nat) : (h + 16 * m) % 4 = h % 4 := by omega
theorem div16 (h m : Nat) (hh : h < 16) : (h + 16 * m) / 16 = m := by omega
theorem div256 (h m : Nat) (hh : h < 256) : (h + 256 * m) / 256 = m := by omega
theorem po4_le : ∀ h : Nat, h < 16 → po4 h ≤ 4 := by decide
theorem lin5 (c0 c1 c2 c3 c4 d0 d1 d2 d3 d4 : Nat) : (c0 + 16 * (c1 + 16 * (c2 + 16 * (c3 + 16 * c4)))) + (d0 + 16 * (d1 + 16 * (d2 + 16 * (d3 + 16 * d4)))) = c0 + d0 + 16 * (c1 + d1 + 16 * (c2 + d2 + 16 * (c3 + d3 + 16 * (c4 + d4)))) := by omega
section POP
variable {n h0 h1 h2 h3 h4 : Nat}
theorem popA (b0 : h0 < 16) (b1 : h1 < 16) (b2 : h2 < 16) (b3 : h3 < 16) (b4 : h4 < 16) : (h0 + 16 * (h1 + 16 * (h2 + 16 * (h3 + 16 * h4)))) / 2 &&& 1431655765 = al4 h0 + 16 * (al4 h1 + 16 * (al4 h2 + 16 * (al4 h3 + 16 * al4 h4))) := by
  rw [half16, half16, half16, half16, mod16, mod16, mod16, show h4 / 2 = h4 / 2 + 8 * 0 from rfl, mask5 5 1431655765 89478485 5592405 349525 21845 1365 rfl rfl rfl rfl rfl (by decide) (by omega) (by omega) (by omega) (by omega) (by omega), and5 h0 b0 _ (by omega), and5 h1 b1 _ (by omega), and5 h2 b2 _ (by omega), and5 h3 b3 _ (by omega), and5 h4 b4 0 (by omega)]
theorem popB1 (b0 : h0 < 16) (b1 : h1 < 16) (b2 : h2 < 16) (b3 : h3 < 16) (b4 : h4 < 16) : (h0 + 16 * (h1 + 16 * (h2 + 16 * (h3 + 16 * h4)))) &&& 858993459 = h0 % 4 + 16 * (h1 % 4 + 16 * (h2 % 4 + 16 * (h3 % 4 + 16 * (h4 % 4)))) := by
  rw [mask5 3 858993459 53687091 3355443 209715 13107 819 rfl rfl rfl rfl rfl (by decide) b0 b1 b2 b3 b4, and3 h0 b0, and3 h1 b1, and3 h2 b2, and3 h3 b3, and3 h4 b4]
theorem popB2 (b0 : h0 < 16) (b1 : h1 < 16) (b2 : h2 < 16) (b3 : h3 < 16) (b4 : h4 < 16) : (h0 + 16 * (h1 + 16 * (h2 + 16 * (h3 + 16 * h4)))) / 4 &&& 858993459 = h0 / 4 + 16 * (h1 / 4 + 16 * (h2 / 4 + 16 * (h3 / 4 + 16 * (h4 / 4)))) := by
  rw [quar16, quar16, quar16, quar16, mod164, mod164, mod164, show h4 / 4 = h4 / 4 + 4 * 0 from rfl, mask5 3 858993459 53687091 3355443 209715 13107 819 rfl rfl rfl rfl rfl (by decide) (by omega) (by omega) (by omega) (by omega) (by omega), and33 _ (by omega) _ (by omega), and33 _ (by omega) _ (by omega), and33 _ (by omega) _ (by omega), and33 _ (by omega) _ (by omega), and33 _ (by omega) 0 (by omega)]
  rfl
theorem popC {t0 t1 t2 t3 t4 : Nat} (l0 : t0 ≤ 4) (l1 : t1 ≤ 4) (l2 : t2 ≤ 4) (l3 : t3 ≤ 4) (l4 : t4 ≤ 4) : ((t0 + 16 * (t1 + 16 * (t2 + 16 * (t3 + 16 * t4)))) + (t0 + 16 * (t1 + 16 * (t2 + 16 * (t3 + 16 * t4)))) / 16) &&& 252645135 = (t0 + t1) + 256 * ((t2 + t3) + 256 * t4) := by
  rw [div16 _ _ (by omega), show (t0 + 16 * (t1 + 16 * (t2 + 16 * (t3 + 16 * t4)))) + (t1 + 16 * (t2 + 16 * (t3 + 16 * t4))) = (t0 + t1) + 16 * ((t1 + t2) + 16 * ((t2 + t3) + 16 * ((t3 + t4) + 16 * t4))) by omega]
  rw [show (252645135 : Nat) = 15 + 16 * (0 + 16 * (15 + 16 * (0 + 16 * (15 + 16 * 240)))) from rfl, landH _ _ _ _ (by omega) (by omega), landH _ _ _ _ (by omega) (by omega), landH _ _ _ _ (by omega) (by omega), landH _ _ _ _ (by omega) (by omega)]
  have h := landH t4 0 15 240 (by omega) (by omega)
  rw [show t4 + 16 * 0 = t4 from rfl, Nat.zero_and] at h
  have a15 : ∀ y : Nat, y < 16 → y &&& 15 = y := by decide
  rw [h, a15 (t0 + t1) (by omega), a15 (t2 + t3) (by omega), a15 t4 (by omega), Nat.and_zero, Nat.and_zero]
  omega
theorem sub5 (a0 a1 a2 a3 a4 y0 y1 y2 y3 y4 : Nat) : (a0 + y0) + 16 * ((a1 + y1) + 16 * ((a2 + y2) + 16 * ((a3 + y3) + 16 * (a4 + y4)))) = (a0 + 16 * (a1 + 16 * (a2 + 16 * (a3 + 16 * a4)))) + (y0 + 16 * (y1 + 16 * (y2 + 16 * (y3 + 16 * y4)))) := by omega
theorem le5 {y0 y1 y2 y3 y4 : Nat} (h0 : y0 < 16) (h1 : y1 < 16) (h2 : y2 < 16) (h3 : y3 < 16) (h4 : y4 < 16) : y0 + 16 * (y1 + 16 * (y2 + 16 * (y3 + 16 * y4))) < 2147483648 := by omega
theorem nadd (a b : Nat) : J (a : Nat) + J (b : Nat) = J ((a + b : Nat) : Int) := by rw [j_add, Int.natCast_add]
theorem nsub {a b c : Nat} (h : a = b + c) : J (a : Nat) - J (b : Nat) = J (c : Nat) := by
  rw [j_sub, h, Int.natCast_add]
  congr 1
  omega
theorem lt33 {t0 t1 t2 t3 t4 : Nat} (l0 : t0 ≤ 4) (l1 : t1 ≤ 4) (l2 : t2 ≤ 4) (l3 : t3 ≤ 4) (l4 : t4 ≤ 4) : t0 + t1 + 256 * (t2 + t3 + 256 * t4) < 2147483648 ∧ (t0 + t1 + t2 + t3) + 256 * ((t2 + t3 + t4) + 256 * t4) < 2147483648 := by omega
theorem eq33 (t0 t1 t2 t3 t4 : Nat) : t0 + t1 + 256 * (t2 + t3 + 256 * t4) + (t2 + t3 + 256 * t4) = (t0 + t1 + t2 + t3) + 256 * ((t2 + t3 + t4) + 256 * t4) := by omega
theorem m64 (S W : Nat) (h : S < 64) : (S + 256 * W) % 2 ^ 6 = S := by omega
theorem eq63 (t0 t1 t2 t3 t4 : Nat) : (t0 + t1 + t2 + t3) + 256 * ((t2 + t3 + t4) + 256 * t4) + t4 = (t0 + t1 + t2 + t3 + t4) + 256 * ((t2 + t3 + t4) + 256 * t4) := by omega
theorem pop6 {u : Mem} {A x1 t0 t1 t2 t3 t4 : Nat} (hn : n < 2147483648) (hx1 : x1 < 2147483648) (eA : n / 2 &&& 1431655765 = A) (en : n = A + x1) (e22 : (x1 &&& 858993459) + (x1 / 4 &&& 858993459) = t0 + 16 * (t1 + 16 * (t2 + 16 * (t3 + 16 * t4)))) (l0 : t0 ≤ 4) (l1 : t1 ≤ 4) (l2 : t2 ≤ 4) (l3 : t3 ≤ 4) (l4 : t4 ≤ 4) : fJ6_bitCount_0f7a4 (J (n : Nat)) u = some (J (t0 + t1 + t2 + t3 + t4 : Nat)) := by
  have eC := popC l0 l1 l2 l3 l4
  have hx2 := le5 (y0 := t0) (y1 := t1) (y2 := t2) (y3 := t3) (y4 := t4) (by omega) (by omega) (by omega) (by omega) (by omega)
  obtain ⟨l33, l34⟩ := lt33 l0 l1 l2 l3 l4
  have h256 : t0 + t1 < 256 := by omega
  have h256' : t0 + t1 + t2 + t3 < 256 := by omega
  have h256'' : t2 + t3 + t4 < 256 := by omega
  have h64 : t0 + t1 + t2 + t3 + t4 < 64 := by omega
  have c1 : (1431655765 : Int32) = J ((1431655765 : Nat) : Int) := rfl
  have c2 : (858993459 : Int32) = J ((858993459 : Nat) : Int) := rfl
  have c3 : (252645135 : Int32) = J ((252645135 : Nat) : Int) := rfl
  unfold fJ6_bitCount_0f7a4
  simp only [s_nm]
  rw [ushrJ1 n hn, c1, andJ, eA, nsub en, ushrJ2 x1 hx1, c2, andJ, andJ, nadd, e22, ushrJ4 _ hx2, nadd, c3, andJ, eC, ushrJ8 _ l33, nadd, div256 _ _ h256, eq33, ushrJ16 _ l34, nadd]
  rw [show ((t0 + t1 + t2 + t3) + 256 * ((t2 + t3 + t4) + 256 * t4)) / 65536 = t4 by rw [show (65536 : Nat) = 256 * 256 from rfl, ← Nat.div_div_eq_div_mul, div256 _ _ h256', div256 _ _ h256'']]
  have e63 : J (((t0 + t1 + t2 + t3) + 256 * ((t2 + t3 + t4) + 256 * t4) + t4 : Nat) : Int) &&& (63 : Int32) = J ((t0 + t1 + t2 + t3 + t4 : Nat) : Int) := by
    have hlt : (t0 + t1 + t2 + t3 + t4) + 256 * ((t2 + t3 + t4) + 256 * t4) < 2 ^ 32 := by
      show _ < 4294967296
      omega
    rw [eq63, J_nI, J_nI, pk_andN hlt 6 rfl, m64 _ _ h64]
  rw [e63]
theorem pop5 {u : Mem} (en : n = h0 + 16 * (h1 + 16 * (h2 + 16 * (h3 + 16 * h4)))) (b0 : h0 < 16) (b1 : h1 < 16) (b2 : h2 < 16) (b3 : h3 < 16) (b4 : h4 < 16) : fJ6_bitCount_0f7a4 (J (n : Nat)) u = some (J (po4 h0 + po4 h1 + po4 h2 + po4 h3 + po4 h4 : Nat)) := by
  obtain ⟨p01, p02, p03, -⟩ := po4_eq h0 b0
  obtain ⟨p11, p12, p13, -⟩ := po4_eq h1 b1
  obtain ⟨p21, p22, p23, -⟩ := po4_eq h2 b2
  obtain ⟨p31, p32, p33, -⟩ := po4_eq h3 b3
  obtain ⟨p41, p42, p43, -⟩ := po4_eq h4 b4
  have eA := popA b0 b1 b2 b3 b4
  rw [← en] at eA
  have g0 : h0 - al4 h0 < 16 := Nat.lt_of_le_of_lt p02 (by decide)
  have g1 : h1 - al4 h1 < 16 := Nat.lt_of_le_of_lt p12 (by decide)
  have g2 : h2 - al4 h2 < 16 := Nat.lt_of_le_of_lt p22 (by decide)
  have g3 : h3 - al4 h3 < 16 := Nat.lt_of_le_of_lt p32 (by decide)
  have g4 : h4 - al4 h4 < 16 := Nat.lt_of_le_of_lt p42 (by decide)
  have hn : n < 2147483648 := by rw [en]; exact le5 b0 b1 b2 b3 b4
  refine pop6 hn (le5 g0 g1 g2 g3 g4) eA ?_ ?_ (po4_le h0 b0) (po4_le h1 b1) (po4_le h2 b2) (po4_le h3 b3) (po4_le h4 b4)
  · rw [en, ← sub5, Nat.add_sub_cancel' p01, Nat.add_sub_cancel' p11, Nat.add_sub_cancel' p21, Nat.add_sub_cancel' p31, Nat.add_sub_cancel' p41]
  · rw [popB1 g0 g1 g2 g3 g4, popB2 g0 g1 g2 g3 g4, lin5, p03, p13, p23, p33, p43]
end POP
theorem bit1 (n q : Nat) (hn : n < 2147483648) (hq : q < 32) (hb : bt n q = 1) : (J (n : Nat) >>> (J (q : Nat) &&& J 31)) &&& J 1 = J 1 := by rw [bitJ n q hn hq, hb]; rfl
theorem bit0 (n q : Nat) (hn : n < 2147483648) (hq : q < 32) (hb : bt n q = 0) : (J (n : Nat) >>> (J (q : Nat) &&& J 31)) &&& J 1 = J 0 := by rw [bitJ n q hn hq, hb]; rfl
