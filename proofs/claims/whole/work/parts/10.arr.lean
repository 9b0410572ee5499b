/-! rows of arrays -/
section RN4
variable {l : Launch} {G : Gt} {M : MI} {d pc : Nat} {lv lv' : List (Nat × Value)} {st : List Value} {u u' : Mem} {o : Outcome}
theorem okb_spec {u : Mem} {a c : Nat} {i : Int32} (h : (okc u a c && inb i (KF a).2) = true) : a < mN u ∧ (KF a).1 = c ∧ vp_in i (KF a).2 := by
  rw [Bool.and_eq_true] at h
  exact ⟨(okc_spec h.1).1, (okc_spec h.1).2, inb_spec h.2⟩
theorem rn_iald {r : Option Nat} {j : Int32} {v : Int32} (hd : decode M.2.1 pc = .ok (.iaload, 1)) (h : alI u r 20 j = some v) (kk : Rn l G M d (pc + 1) lv (.int v :: st) u o u') : Rn l G M d pc lv (.int j :: rv r :: st) u o u' := by
  obtain ⟨a, rfl, h⟩ := bnd_some h
  obtain ⟨h1, h2⟩ := ite_some h
  obtain ⟨ha1, ha2, hin⟩ := okb_spec h1
  refine Rn.same kk fun p e R s m args below meth c H locs cells slots ls Q C0 hl hM hS kk => ?_
  have hlt : j.toNatClampNeg < (KF a).2 := Nat.not_le.mp fun q => hin (Or.inr q)
  exact W.iald (v := .int v) C0.1 C0.2.1 (hM.arr ha1 ha2 (by decide)) ((C0.wd.2.1 20 (by decide) (by decide)).1 _ _) (fun q => by cases q) (by rw [arrV_size]; exact hin) (by rw [arrV_read _ _ hlt, ← h2]; rfl) rfl rfl hd (kk ls hl)
theorem rn_bald {r : Option Nat} {j : Int32} {v : Int32} (hd : decode M.2.1 pc = .ok (.baload, 1)) (h : alI u r 21 j = some v) (kk : Rn l G M d (pc + 1) lv (.int v :: st) u o u') : Rn l G M d pc lv (.int j :: rv r :: st) u o u' := by
  obtain ⟨a, rfl, h⟩ := bnd_some h
  obtain ⟨h1, h2⟩ := ite_some h
  obtain ⟨ha1, ha2, hin⟩ := okb_spec h1
  refine Rn.same kk fun p e R s m args below meth c H locs cells slots ls Q C0 hl hM hS kk => ?_
  have hlt : j.toNatClampNeg < (KF a).2 := Nat.not_le.mp fun q => hin (Or.inr q)
  exact W.bald (v := .int v) C0.1 C0.2.1 (hM.arr ha1 ha2 (by decide)) ((C0.wd.2.1 21 (by decide) (by decide)).1 _ _) (fun q => by cases q) (by rw [arrV_size]; exact hin) (by rw [arrV_read _ _ hlt, ← h2]; rfl) rfl rfl hd (kk ls hl)
theorem rn_zald {r : Option Nat} {j : Int32} {v : Int32} (hd : decode M.2.1 pc = .ok (.baload, 1)) (h : alI u r 22 j = some v) (kk : Rn l G M d (pc + 1) lv (.int v :: st) u o u') : Rn l G M d pc lv (.int j :: rv r :: st) u o u' := by
  obtain ⟨a, rfl, h⟩ := bnd_some h
  obtain ⟨h1, h2⟩ := ite_some h
  obtain ⟨ha1, ha2, hin⟩ := okb_spec h1
  refine Rn.same kk fun p e R s m args below meth c H locs cells slots ls Q C0 hl hM hS kk => ?_
  have hlt : j.toNatClampNeg < (KF a).2 := Nat.not_le.mp fun q => hin (Or.inr q)
  exact W.zald (v := .int v) C0.1 C0.2.1 (hM.arr ha1 ha2 (by decide)) ((C0.wd.2.1 22 (by decide) (by decide)).1 _ _) (fun q => by cases q) (by rw [arrV_size]; exact hin) (by rw [arrV_read _ _ hlt, ← h2]; rfl) rfl rfl hd (kk ls hl)
theorem rn_lald {r : Option Nat} {j : Int32} {v : Int64} (hd : decode M.2.1 pc = .ok (.laload, 1)) (h : alL u r 23 j = some v) (kk : Rn l G M d (pc + 1) lv (.long v :: st) u o u') : Rn l G M d pc lv (.int j :: rv r :: st) u o u' := by
  obtain ⟨a, rfl, h⟩ := bnd_some h
  obtain ⟨h1, h2⟩ := ite_some h
  obtain ⟨ha1, ha2, hin⟩ := okb_spec h1
  refine Rn.same kk fun p e R s m args below meth c H locs cells slots ls Q C0 hl hM hS kk => ?_
  have hlt : j.toNatClampNeg < (KF a).2 := Nat.not_le.mp fun q => hin (Or.inr q)
  exact W.lald (v := .long v) C0.1 C0.2.1 (hM.arr ha1 ha2 (by decide)) ((C0.wd.2.1 23 (by decide) (by decide)).1 _ _) (fun q => by cases q) (by rw [arrV_size]; exact hin) (by rw [arrV_read _ _ hlt, ← h2]; rfl) rfl rfl hd (kk ls hl)
theorem rn_aald24 {r : Option Nat} {j : Int32} {v : Option Nat} (hd : decode M.2.1 pc = .ok (.aaload, 1)) (h : alR u r 24 j = some v) (kk : Rn l G M d (pc + 1) lv (rv v :: st) u o u') : Rn l G M d pc lv (.int j :: rv r :: st) u o u' := by
  obtain ⟨a, rfl, h⟩ := bnd_some h
  obtain ⟨h1, h2⟩ := ite_some h
  obtain ⟨ha1, ha2, hin⟩ := okb_spec h1
  refine Rn.same kk fun p e R s m args below meth c H locs cells slots ls Q C0 hl hM hS kk => ?_
  have hlt : j.toNatClampNeg < (KF a).2 := Nat.not_le.mp fun q => hin (Or.inr q)
  exact W.aald (v := gv G (rv v)) (ty := aty 24) C0.1 C0.2.1 (hM.arr ha1 ha2 (by decide)) ((C0.wd.2.1 24 (by decide) (by decide)).1 _ _) rfl (fun q => by cases q) (by rw [arrV_size]; exact hin) (by rw [arrV_read _ _ hlt, ← h2, gv_rv]; rfl) rfl rfl hd (kk ls hl)
theorem rn_aald25 {r : Option Nat} {j : Int32} {v : Option Nat} (hd : decode M.2.1 pc = .ok (.aaload, 1)) (h : alR u r 25 j = some v) (kk : Rn l G M d (pc + 1) lv (rv v :: st) u o u') : Rn l G M d pc lv (.int j :: rv r :: st) u o u' := by
  obtain ⟨a, rfl, h⟩ := bnd_some h
  obtain ⟨h1, h2⟩ := ite_some h
  obtain ⟨ha1, ha2, hin⟩ := okb_spec h1
  refine Rn.same kk fun p e R s m args below meth c H locs cells slots ls Q C0 hl hM hS kk => ?_
  have hlt : j.toNatClampNeg < (KF a).2 := Nat.not_le.mp fun q => hin (Or.inr q)
  exact W.aald (v := gv G (rv v)) (ty := aty 25) C0.1 C0.2.1 (hM.arr ha1 ha2 (by decide)) ((C0.wd.2.1 25 (by decide) (by decide)).1 _ _) rfl (fun q => by cases q) (by rw [arrV_size]; exact hin) (by rw [arrV_read _ _ hlt, ← h2, gv_rv]; rfl) rfl rfl hd (kk ls hl)
theorem rn_alen {r : Option Nat} {v : Int32} (code : Nat) (hc : 20 ≤ code ∧ code ≤ 25) (hd : decode M.2.1 pc = .ok (.arraylength, 1)) (h : aln u r code = some v) (kk : Rn l G M d (pc + 1) lv (.int v :: st) u o u') : Rn l G M d pc lv (rv r :: st) u o u' := by
  obtain ⟨a, rfl, h⟩ := bnd_some h
  obtain ⟨h1, h2⟩ := ite_some h
  obtain ⟨ha1, ha2⟩ := okc_spec h1
  refine Rn.same kk fun p e R s m args below meth c H locs cells slots ls Q C0 hl hM hS kk => ?_
  exact W.alen (n := v) (ty := aty code) C0.1 C0.2.1 (hM.arr ha1 ha2 (by omega)) ((C0.wd.2.1 code hc.1 hc.2).1 _ _) (by rw [arrV_size, ← h2]) rfl rfl hd (kk ls hl)
/-- what a written array cell is -/
theorem cell_arr {u1 : Mem} {a c k : Nat} {H1 : Heap} {x : Value} (hM : a < mN u ∧ mN u ≤ 1000000) (hc : (KF a).1 = c) (hl : ¬ c < 20) (e : H1[gr G a]? = some ((arrV (gAc G c) (KF a).2 (arV G u c a)).setSlot k x)) (hx : ∀ j, arV G u1 c a j = if j = k then x else arV G u c a j) : cellAt G u1 a H1 := by
  unfold cellAt
  have hg : gr G a = gB G + a := if_pos (Nat.lt_of_lt_of_le hM.1 hM.2)
  rw [hc, if_neg hl, ← hg, e, arrV_store]
  congr 2
  funext j
  rw [hx j]
  rfl
theorem rn_iast {r : Option Nat} {j : Int32} {x : Int32} {u1 : Mem} (hd : decode M.2.1 pc = .ok (.iastore, 1)) (h : asI u r 20 j x = some u1) (kk : Rn l G M d (pc + 1) lv st u1 o u') : Rn l G M d pc lv (.int x :: .int j :: rv r :: st) u o u' := by
  obtain ⟨a, rfl, h⟩ := bnd_some h
  obtain ⟨h1, rfl⟩ := ite_some h
  obtain ⟨ha1, ha2, hin⟩ := okb_spec h1
  refine Rn.wr (u1 := sI u a j.toNatClampNeg x) rfl kk fun p e R s m args below meth c H locs cells slots ls Q C0 hl hM hS kk => ?_
  refine W.iast C0.1 C0.2.1 (hM.arr ha1 ha2 (by decide)) ((C0.wd.2.1 20 (by decide) (by decide)).1 _ _) (fun q => by cases q) (by rw [arrV_size]; exact hin) rfl rfl hd fun H1 e z oq => ?_
  refine kk H1 _ (hM.set rfl z oq ha1 (cell_arr ⟨ha1, hM.2.1⟩ ha2 (by decide) e fun j2 => ?_) (fun b hb => ⟨fun j => ?_, fun j => rfl, fun j => rfl⟩)) (hS.put z oq (by rw [hM.adr ha1]; exact Nat.le_add_right _ _))
  · show Value.int (mI (sI u a j.toNatClampNeg x) a j2) = _
    rw [mI_sI]
    by_cases hj : j2 = j.toNatClampNeg
    · rw [if_pos ⟨rfl, hj⟩, if_pos hj] <;> rfl
    · rw [if_neg (fun z => hj z.2), if_neg hj] <;> rfl
  · rw [mI_sI, if_neg (fun z => hb z.1)]
theorem rn_bast {r : Option Nat} {j : Int32} {x : Int32} {u1 : Mem} (hd : decode M.2.1 pc = .ok (.bastore, 1)) (h : asI u r 21 j x.toInt8.toInt32 = some u1) (kk : Rn l G M d (pc + 1) lv st u1 o u') : Rn l G M d pc lv (.int x :: .int j :: rv r :: st) u o u' := by
  obtain ⟨a, rfl, h⟩ := bnd_some h
  obtain ⟨h1, rfl⟩ := ite_some h
  obtain ⟨ha1, ha2, hin⟩ := okb_spec h1
  refine Rn.wr (u1 := sI u a j.toNatClampNeg x.toInt8.toInt32) rfl kk fun p e R s m args below meth c H locs cells slots ls Q C0 hl hM hS kk => ?_
  refine W.bast C0.1 C0.2.1 (hM.arr ha1 ha2 (by decide)) ((C0.wd.2.1 21 (by decide) (by decide)).1 _ _) (fun q => by cases q) (by rw [arrV_size]; exact hin) rfl rfl hd fun H1 e z oq => ?_
  refine kk H1 _ (hM.set rfl z oq ha1 (cell_arr ⟨ha1, hM.2.1⟩ ha2 (by decide) e fun j2 => ?_) (fun b hb => ⟨fun j => ?_, fun j => rfl, fun j => rfl⟩)) (hS.put z oq (by rw [hM.adr ha1]; exact Nat.le_add_right _ _))
  · show Value.int (mI (sI u a j.toNatClampNeg x.toInt8.toInt32) a j2) = _
    rw [mI_sI]
    by_cases hj : j2 = j.toNatClampNeg
    · rw [if_pos ⟨rfl, hj⟩, if_pos hj] <;> rfl
    · rw [if_neg (fun z => hj z.2), if_neg hj] <;> rfl
  · rw [mI_sI, if_neg (fun z => hb z.1)]
theorem rn_zast {r : Option Nat} {j : Int32} {x : Int32} {u1 : Mem} (hd : decode M.2.1 pc = .ok (.bastore, 1)) (h : asI u r 22 j (x &&& 1) = some u1) (kk : Rn l G M d (pc + 1) lv st u1 o u') : Rn l G M d pc lv (.int x :: .int j :: rv r :: st) u o u' := by
  obtain ⟨a, rfl, h⟩ := bnd_some h
  obtain ⟨h1, rfl⟩ := ite_some h
  obtain ⟨ha1, ha2, hin⟩ := okb_spec h1
  refine Rn.wr (u1 := sI u a j.toNatClampNeg (x &&& 1)) rfl kk fun p e R s m args below meth c H locs cells slots ls Q C0 hl hM hS kk => ?_
  refine W.zast C0.1 C0.2.1 (hM.arr ha1 ha2 (by decide)) ((C0.wd.2.1 22 (by decide) (by decide)).1 _ _) (fun q => by cases q) (by rw [arrV_size]; exact hin) rfl rfl hd fun H1 e z oq => ?_
  refine kk H1 _ (hM.set rfl z oq ha1 (cell_arr ⟨ha1, hM.2.1⟩ ha2 (by decide) e fun j2 => ?_) (fun b hb => ⟨fun j => ?_, fun j => rfl, fun j => rfl⟩)) (hS.put z oq (by rw [hM.adr ha1]; exact Nat.le_add_right _ _))
  · show Value.int (mI (sI u a j.toNatClampNeg (x &&& 1)) a j2) = _
    rw [mI_sI]
    by_cases hj : j2 = j.toNatClampNeg
    · rw [if_pos ⟨rfl, hj⟩, if_pos hj] <;> rfl
    · rw [if_neg (fun z => hj z.2), if_neg hj] <;> rfl
  · rw [mI_sI, if_neg (fun z => hb z.1)]
theorem rn_last {r : Option Nat} {j : Int32} {x : Int64} {u1 : Mem} (hd : decode M.2.1 pc = .ok (.lastore, 1)) (h : asL u r 23 j x = some u1) (kk : Rn l G M d (pc + 1) lv st u1 o u') : Rn l G M d pc lv (.long x :: .int j :: rv r :: st) u o u' := by
  obtain ⟨a, rfl, h⟩ := bnd_some h
  obtain ⟨h1, rfl⟩ := ite_some h
  obtain ⟨ha1, ha2, hin⟩ := okb_spec h1
  refine Rn.wr (u1 := sL u a j.toNatClampNeg x) rfl kk fun p e R s m args below meth c H locs cells slots ls Q C0 hl hM hS kk => ?_
  refine W.last C0.1 C0.2.1 (hM.arr ha1 ha2 (by decide)) ((C0.wd.2.1 23 (by decide) (by decide)).1 _ _) (fun q => by cases q) (by rw [arrV_size]; exact hin) rfl rfl hd fun H1 e z oq => ?_
  refine kk H1 _ (hM.set rfl z oq ha1 (cell_arr ⟨ha1, hM.2.1⟩ ha2 (by decide) e fun j2 => ?_) (fun b hb => ⟨fun j => rfl, fun j => ?_, fun j => rfl⟩)) (hS.put z oq (by rw [hM.adr ha1]; exact Nat.le_add_right _ _))
  · show Value.long (mL (sL u a j.toNatClampNeg x) a j2) = _
    rw [mL_sL]
    by_cases hj : j2 = j.toNatClampNeg
    · rw [if_pos ⟨rfl, hj⟩, if_pos hj] <;> rfl
    · rw [if_neg (fun z => hj z.2), if_neg hj] <;> rfl
  · rw [mL_sL, if_neg (fun z => hb z.1)]
theorem rn_aast24 {r : Option Nat} {j : Int32} {x : Option Nat} {u1 : Mem} (hd : decode M.2.1 pc = .ok (.aastore, 1)) (h : asR u r 24 5 j x = some u1) (kk : Rn l G M d (pc + 1) lv st u1 o u') : Rn l G M d pc lv (rv x :: .int j :: rv r :: st) u o u' := by
  obtain ⟨a, rfl, h⟩ := bnd_some h
  obtain ⟨h0, rfl⟩ := ite_some h
  rw [Bool.and_eq_true] at h0
  obtain ⟨h1, hx⟩ := h0
  obtain ⟨ha1, ha2, hin⟩ := okb_spec h1
  refine Rn.wr (u1 := sR u a j.toNatClampNeg x) rfl kk fun p e R s m args below meth c H locs cells slots ls Q C0 hl hM hS kk => ?_
  have fin : ∀ H1 : Heap, H1[gr G a]? = some ((arrV (gAc G 24) (KF a).2 (arV G u 24 a)).setSlot j.toNatClampNeg (gv G (rv x))) → H1.size = H.size → (∀ q : Nat, q ≠ gr G a → H1[q]? = H[q]?) → W p l e R s m args below meth c H1 (locs ++ [⟨gr G a, j.toNatClampNeg⟩]) cells slots Q (F0 m (pc + 1) ls (st.map (gv G))) := by
    intro H1 e z oq
    refine kk H1 _ (hM.set rfl z oq ha1 (cell_arr ⟨ha1, hM.2.1⟩ ha2 (by decide) e fun j2 => ?_) (fun b hb => ⟨fun j => rfl, fun j => rfl, fun j => ?_⟩)) (hS.put z oq (by rw [hM.adr ha1]; exact Nat.le_add_right _ _))
    · show va_rf ((mR (sR u a j.toNatClampNeg x) a j2).map (gr G)) = _
      rw [mR_sR]
      by_cases hj : j2 = j.toNatClampNeg
      · rw [if_pos ⟨rfl, hj⟩, if_pos hj, gv_rv]
      · rw [if_neg (fun z => hj z.2), if_neg hj] <;> rfl
    · rw [mR_sR, if_neg (fun z => hb z.1)]
  have hlt : j.toNatClampNeg < (KF a).2 := Nat.not_le.mp fun q => hin (Or.inr q)
  obtain ⟨hAr, kA, comp, k1, k2, k3, -⟩ := C0.wd.2.1 24 (by decide) (by decide)
  cases x with
  | none => exact va_WaastN (C := RX5) C0.1 C0.2.1 (hM.arr ha1 ha2 (by decide)) (hAr _ _) (fun h => by cases h) (by rw [arrV_size]; exact hin) rfl rfl hd fin
  | some b =>
    obtain ⟨hb1, hb2⟩ := okc_spec hx
    obtain ⟨cellV, g1, g2, g3, -⟩ := hM.obj hb1 hb2 (by decide)
    have hcls := (C0.wd.1 5 (RX5, TX5, 5) rfl).2
    have hcomp : comp = gC G 5 := Option.some.inj (k3.symm.trans hcls.1)
    obtain ⟨kC, hkC, -⟩ := id hcls.2
    exact W.aast C0.1 C0.2.1 (hM.arr ha1 ha2 (by decide)) (fun q h => by cases h) (fun h => by cases h) k1 k2 rfl (by rw [hcomp]; exact hkC) ⟨fun q => hin (Or.inl q), by rw [arrV_size]; exact hlt⟩ g1 (fun q h => by rw [g3] at h; cases h) (by rw [g2]; exact hkC) (by rw [g2, hcomp]; exact va_assign hcls) rfl rfl hd fin
theorem rn_aast25 {r : Option Nat} {j : Int32} {x : Option Nat} {u1 : Mem} (hd : decode M.2.1 pc = .ok (.aastore, 1)) (h : asR u r 25 3 j x = some u1) (kk : Rn l G M d (pc + 1) lv st u1 o u') : Rn l G M d pc lv (rv x :: .int j :: rv r :: st) u o u' := by
  obtain ⟨a, rfl, h⟩ := bnd_some h
  obtain ⟨h0, rfl⟩ := ite_some h
  rw [Bool.and_eq_true] at h0
  obtain ⟨h1, hx⟩ := h0
  obtain ⟨ha1, ha2, hin⟩ := okb_spec h1
  refine Rn.wr (u1 := sR u a j.toNatClampNeg x) rfl kk fun p e R s m args below meth c H locs cells slots ls Q C0 hl hM hS kk => ?_
  have fin : ∀ H1 : Heap, H1[gr G a]? = some ((arrV (gAc G 25) (KF a).2 (arV G u 25 a)).setSlot j.toNatClampNeg (gv G (rv x))) → H1.size = H.size → (∀ q : Nat, q ≠ gr G a → H1[q]? = H[q]?) → W p l e R s m args below meth c H1 (locs ++ [⟨gr G a, j.toNatClampNeg⟩]) cells slots Q (F0 m (pc + 1) ls (st.map (gv G))) := by
    intro H1 e z oq
    refine kk H1 _ (hM.set rfl z oq ha1 (cell_arr ⟨ha1, hM.2.1⟩ ha2 (by decide) e fun j2 => ?_) (fun b hb => ⟨fun j => rfl, fun j => rfl, fun j => ?_⟩)) (hS.put z oq (by rw [hM.adr ha1]; exact Nat.le_add_right _ _))
    · show va_rf ((mR (sR u a j.toNatClampNeg x) a j2).map (gr G)) = _
      rw [mR_sR]
      by_cases hj : j2 = j.toNatClampNeg
      · rw [if_pos ⟨rfl, hj⟩, if_pos hj, gv_rv]
      · rw [if_neg (fun z => hj z.2), if_neg hj] <;> rfl
    · rw [mR_sR, if_neg (fun z => hb z.1)]
  have hlt : j.toNatClampNeg < (KF a).2 := Nat.not_le.mp fun q => hin (Or.inr q)
  obtain ⟨hAr, kA, comp, k1, k2, k3, -⟩ := C0.wd.2.1 25 (by decide) (by decide)
  cases x with
  | none => exact va_WaastN (C := RX3) C0.1 C0.2.1 (hM.arr ha1 ha2 (by decide)) (hAr _ _) (fun h => by cases h) (by rw [arrV_size]; exact hin) rfl rfl hd fin
  | some b =>
    obtain ⟨hb1, hb2⟩ := okc_spec hx
    obtain ⟨cellV, g1, g2, g3, -⟩ := hM.obj hb1 hb2 (by decide)
    have hcls := (C0.wd.1 3 (RX3, TX3, 5) rfl).2
    have hcomp : comp = gC G 3 := Option.some.inj (k3.symm.trans hcls.1)
    obtain ⟨kC, hkC, -⟩ := id hcls.2
    exact W.aast C0.1 C0.2.1 (hM.arr ha1 ha2 (by decide)) (fun q h => by cases h) (fun h => by cases h) k1 k2 rfl (by rw [hcomp]; exact hkC) ⟨fun q => hin (Or.inl q), by rw [arrV_size]; exact hlt⟩ g1 (fun q h => by rw [g3] at h; cases h) (by rw [g2]; exact hkC) (by rw [g2, hcomp]; exact va_assign hcls) rfl rfl hd fin
/-- the law's own script -/
theorem rn_sld {j : Int32} (hin : inb j (gLn G) = true) (hd : decode M.2.1 pc = .ok (.iaload, 1)) (kk : Rn l G M d (pc + 1) lv (.int (gXs G j.toNatClampNeg) :: st) u o u') : Rn l G M d pc lv (.int j :: rv (some (1000000 + 50)) :: st) u o u' :=
  Rn.same kk fun p e R s m args below meth c H locs cells slots ls Q C0 hl hM hS kk => by
    obtain ⟨-, -, -, -, -, -, hX, hlt⟩ := C0.wd.2.2.1.1
    have h1 := va_sld C0.1 C0.2.1 hX (Nat.lt_of_lt_of_le hlt C0.wd.2.2.2) (Nat.not_le.mpr hlt) hS (inb_spec hin) hd (kk ls hl)
    rw [List.map_cons, List.map_cons, show gv G (rv (some (1000000 + 50))) = .ref (gX G 50) by show Value.ref _ = _; rw [gr_ext]]
    exact h1
theorem rn_slen (hd : decode M.2.1 pc = .ok (.arraylength, 1)) (kk : Rn l G M d (pc + 1) lv (.int (Int32.ofNat (gLn G)) :: st) u o u') : Rn l G M d pc lv (rv (some (1000000 + 50)) :: st) u o u' :=
  Rn.same kk fun p e R s m args below meth c H locs cells slots ls Q C0 hl hM hS kk => by
    obtain ⟨-, -, -, -, -, -, hX, hlt⟩ := C0.wd.2.2.1.1
    have h1 := va_slen C0.1 C0.2.1 hX (Nat.lt_of_lt_of_le hlt C0.wd.2.2.2) (Nat.not_le.mpr hlt) hS hd (kk ls hl)
    rw [List.map_cons, show gv G (rv (some (1000000 + 50))) = .ref (gX G 50) by show Value.ref _ = _; rw [gr_ext]]
    exact h1
end RN4
