/-! rows of fields -/
theorem KF_out {a : Nat} (h : KS ≤ a) : KF a = (3, 5) := by
  unfold KF
  rw [List.getD_eq_getElem?_getD, List.getElem?_eq_none (Nat.le_trans (by decide) h)]
  rfl
theorem KF_key : ∀ a, a < KS → (KF a).1 < 20 → (vwCl.map (fun q => q.2.2))[(KF a).1]? = some (KF a).2 := by decide +kernel
theorem KF_N (a : Nat) (h : (KF a).1 < 20) : (vwCl.map (fun q => q.2.2))[(KF a).1]? = some (KF a).2 := by
  by_cases ha : a < KS
  · exact KF_key a ha h
  · rw [KF_out (Nat.not_lt.mp ha)]; rfl
def clsOK (ci : Nat) (C : String) (T : u_T) (N : Nat) : Prop := ci < 20 ∧ vwCl[ci]? = some (C, T, N) ∧ (∀ w ∈ u_ws C T N, w ∈ lw_g) ∧ (∀ k, k < N → parseFieldDescriptor (T k).2.2.1 = some (FTy ci k)) ∧ ∀ a, a < N → ∀ b, b < N → a ≠ b → (T a).2.1 ≠ (T b).2.1
theorem KF_cls {a ci : Nat} {C : String} {T : u_T} {N : Nat} (ok : clsOK ci C T N) (h : (KF a).1 = ci) : (KF a).2 = N := by
  have h1 := KF_N a (by rw [h]; exact ok.1)
  rw [h, List.getElem?_map, ok.2.1] at h1
  exact (Option.some.inj h1).symm
def isI (ty : FieldType) : Bool := match ty with
  | .object _ => false
  | .array _ => false
  | _ => true
theorem fvO_int {ty : FieldType} (h : isI ty = true) (i : Int32) (r : Option Nat) : fvO ty i r = .int i := by cases ty <;> first | rfl | cases h
theorem fvO_ref {ty : FieldType} (h : isI ty = false) (i : Int32) (r : Option Nat) : fvO ty i r = va_rf r := by cases ty <;> first | rfl | cases h
theorem Wd.K {G : Gt} {s : State} (h : Wd G s) : va_K G.1 vwCl [] s := ⟨h.1, fun k q hq => by simp at hq⟩
section RN3
variable {l : Launch} {G : Gt} {M : MI} {d pc : Nat} {lv lv' : List (Nat × Value)} {st : List Value} {u u' : Mem} {o : Outcome} {C : String} {T : u_T} {N ci : Nat}
theorem rn_getG {k idx : Nat} {a : Nat} {v : Value} (ok : clsOK ci C T N) (hk : k < N) (hw : Cond.fieldLink M.1.cls idx (T k).1 (T k).2.1 (T k).2.2.1 ∈ lw_g) (hd : decode M.2.1 pc = .ok (.getfield idx, 3)) (ha : okc u a ci = true) (hv : fv G u ci a k = gv G v)
    (kk : Rn l G M d (pc + 3) lv (v :: st) u o u') : Rn l G M d pc lv (rv (some a) :: st) u o u' :=
  Rn.same kk fun p e R s m args below meth c H locs cells slots ls Q C0 hl hM hS kk => by
    obtain ⟨ha1, ha2⟩ := okc_spec ha
    obtain ⟨cell, q1, q2, q3, q4⟩ := hM.obj ha1 ha2 ok.1
    rw [KF_cls ok ha2] at q4
    obtain ⟨hSl, hfc, kC, hkC, hkind⟩ := C0.wd.1 ci _ ok.2.1
    obtain ⟨cf, kf, fi, f, hi, hsl⟩ := hSl k hk
    refine W.getf C0.1 C0.2.1 C0.own (C0.hts _ hw) hi (u_facts hfc hkC (u_lays C0.hts ok.2.2.1 hk) hi).1 q1 (by rw [q3]; exact fun h => by cases h) (v := gv G v) ?_ rfl rfl hd (kk ls hl)
    rw [hsl, q4 k hk, hv]
theorem rn_getI {k idx : Nat} {r : Option Nat} {v : Int32} (ok : clsOK ci C T N) (hk : k < N) (hw : Cond.fieldLink M.1.cls idx (T k).1 (T k).2.1 (T k).2.2.1 ∈ lw_g) (hty : isI (FTy ci k) = true) (hd : decode M.2.1 pc = .ok (.getfield idx, 3)) (h : gfI u r ci k = some v)
    (kk : Rn l G M d (pc + 3) lv (.int v :: st) u o u') : Rn l G M d pc lv (rv r :: st) u o u' := by
  obtain ⟨a, rfl, h⟩ := bnd_some h
  obtain ⟨h1, h2⟩ := ite_some h
  exact rn_getG ok hk hw hd h1 (by unfold fv; rw [fvO_int hty, h2]; rfl) kk
theorem rn_getR {k idx : Nat} {r v : Option Nat} (ok : clsOK ci C T N) (hk : k < N) (hw : Cond.fieldLink M.1.cls idx (T k).1 (T k).2.1 (T k).2.2.1 ∈ lw_g) (hty : isI (FTy ci k) = false) (hd : decode M.2.1 pc = .ok (.getfield idx, 3)) (h : gfR u r ci k = some v)
    (kk : Rn l G M d (pc + 3) lv (rv v :: st) u o u') : Rn l G M d pc lv (rv r :: st) u o u' := by
  obtain ⟨a, rfl, h⟩ := bnd_some h
  obtain ⟨h1, h2⟩ := ite_some h
  exact rn_getG ok hk hw hd h1 (by unfold fv; rw [fvO_ref hty, h2, gv_rv]) kk
/-- the memory behind a write, seen from before it -/
theorem Rn.wr {u1 : Mem} {pc2 : Nat} {st2 : List Value} (hn : mN u1 = mN u) (k : Rn l G M d pc2 lv st2 u1 o u')
    (h : ∀ (p : Program) (e : Env) (R : Room) (s : State) (m : MethodId) (args : Array Value) (below : List Frame) (meth : Method) (c : Code) (H : Heap) (locs : List Loc) (cells slots : Nat) (ls : Array Slot) (Q : State → Prop), Cx G M d p R s m args meth c → lv_has ls M.2.2.1 (lv.map (gq G)) → MemAt G u H → va_S (gU G) s.heap H locs →
      (∀ (H1 : Heap) (locs1 : List Loc), MemAt G u1 H1 → va_S (gU G) s.heap H1 locs1 → W p l e R s m args below meth c H1 locs1 cells slots Q (F0 m pc2 ls (st2.map (gv G)))) → W p l e R s m args below meth c H locs cells slots Q (F0 m pc ls (st.map (gv G)))) : Rn l G M d pc lv st u o u' := by
  refine ⟨by rw [← hn]; exact k.1, fun p e R s m args below meth c H locs cells slots ls C hl hM hS hc hs => ?_⟩
  have k2 := k.2 p e R s m args below meth c
  rw [hn] at k2
  exact h p e R s m args below meth c H locs cells slots ls _ C hl hM hS (fun H1 locs1 hM1 hS1 => k2 H1 locs1 cells slots ls C hl hM1 hS1 hc hs)
theorem rn_putG {k idx : Nat} {a : Nat} {v : Value} {u1 : Mem} (ok : clsOK ci C T N) (hk : k < N) (hw : Cond.fieldLink M.1.cls idx (T k).1 (T k).2.1 (T k).2.2.1 ∈ lw_g) (hfin : (T k).2.2.2 = false ∨ ((T k).2.2.2 = true ∧ M.1.name = "<init>" ∧ (T k).1 = M.1.cls)) (hd : decode M.2.1 pc = .ok (.putfield idx, 3)) (ha : okc u a ci = true)
    (hnw : narrow (FTy ci k) (gv G v) = gv G v) (hft : fits (FTy ci k) (gv G v) = true) (hn : mN u1 = mN u) (hself : ∀ j, fv G u1 ci a j = if j = k then gv G v else fv G u ci a j) (hoth : ∀ b, b ≠ a → (∀ k, mI u1 b k = mI u b k) ∧ (∀ k, mL u1 b k = mL u b k) ∧ ∀ k, mR u1 b k = mR u b k)
    (kk : Rn l G M d (pc + 3) lv st u1 o u') : Rn l G M d pc lv (v :: rv (some a) :: st) u o u' :=
  Rn.wr hn kk fun p e R s m args below meth c H locs cells slots ls Q C0 hl hM hS kk => by
    obtain ⟨ha1, ha2⟩ := okc_spec ha
    have hap := va_apart (own := M.1.cls) C0.hts ok.2.2.1 (FTy ci) ok.2.2.2.1 ok.2.2.2.2 C0.wd.K ok.2.1
    obtain ⟨cell, q1, q2, q3, q4⟩ := hM.obj ha1 ha2 ok.1
    rw [KF_cls ok ha2] at q4
    obtain ⟨hSl, hfc, kC, hkC, hkind⟩ := C0.wd.1 ci _ ok.2.1
    obtain ⟨cf, kf, fi, f, hi, hsl⟩ := hSl k hk
    have hst := (u_facts hfc hkC (u_lays C0.hts ok.2.2.1 hk) hi).1
    have hgU : gU G (gr G a) := by rw [hM.adr ha1]; exact Nat.le_add_right _ _
    have fin : ∀ H1 : Heap, H1[gr G a]? = some (cell.setSlot f.slot (gv G v)) → H1.size = H.size → (∀ q : Nat, q ≠ gr G a → H1[q]? = H[q]?) → W p l e R s m args below meth c H1 (locs ++ [⟨gr G a, f.slot⟩]) cells slots Q (F0 m (pc + 3) ls (st.map (gv G))) := by
      intro H1 e1 e2 e3
      refine kk H1 _ (hM.set hn e2 e3 ha1 ?_ hoth) (hS.put e2 e3 hgU)
      unfold cellAt
      rw [ha2, if_pos ok.1, KF_cls ok ha2, ← hM.adr ha1]
      rw [hsl] at e1
      exact t_OB.to (V := updV (fv G u ci a) k (gv G v)) ⟨_, e1, q2, q3, t_set q4 hap hk (gv G v)⟩ (fun j _ => by rw [hself]; rfl)
    have hlay := C0.hts _ (ok.2.2.1 _ (u_in_lay hk))
    unfold u_lay at hlay
    rcases hfin with hfin | ⟨hfin, hin2, hdecl⟩
    · rw [if_neg (by rw [hfin]; decide)] at hlay
      have h6 := u_store hfc hkC hkind hlay hi (ok.2.2.2.1 k hk) hnw hft
      exact W.putK C0.1 C0.2.1 (f := f) ⟨C0.own, C0.hts _ hw, ⟨_, _, _, hi⟩, hst⟩ (by rw [q2]; exact h6) q1 q3 (by rw [hsl]; exact k2_hasslot (q4 k hk)) rfl rfl hd fin
    · rw [if_pos hfin] at hlay
      have hcf : m.cls = cf := by
        obtain ⟨_, _, c', _, _, _, -, -, hf', -, -, -, hown2, -⟩ := Cond.laysFinal_spec hlay
        have e1 : c' = cf := by have := hi.symm.trans hf'; simp at this; exact this.1.symm
        rw [hdecl] at hown2
        rw [← e1]; exact Option.some.inj (C0.own.symm.trans hown2)
      have h6 := u_fits hfc hkC hkind (Or.inr hlay) hi (ok.2.2.2.1 k hk) hnw hft
      exact W.putFinK C0.1 C0.2.1 C0.own (C0.hts _ hw) hi hst hcf ((C0.2.2.2.2.2.1 hin2).trans hin2) (by rw [q2]; exact h6) q1 q3 (by rw [hsl]; exact k2_hasslot (q4 k hk)) rfl rfl hd fin
theorem rn_putI {k idx : Nat} {r : Option Nat} {v : Int32} {u1 : Mem} (ok : clsOK ci C T N) (hk : k < N) (hw : Cond.fieldLink M.1.cls idx (T k).1 (T k).2.1 (T k).2.2.1 ∈ lw_g) (hfin : (T k).2.2.2 = false ∨ ((T k).2.2.2 = true ∧ M.1.name = "<init>" ∧ (T k).1 = M.1.cls)) (hty : FTy ci k = .int ∨ (FTy ci k = .boolean ∧ (v = 0 ∨ v = 1))) (hd : decode M.2.1 pc = .ok (.putfield idx, 3)) (h : pfI u r ci k v = some u1)
    (kk : Rn l G M d (pc + 3) lv st u1 o u') : Rn l G M d pc lv (.int v :: rv r :: st) u o u' := by
  obtain ⟨a, rfl, h⟩ := bnd_some h
  obtain ⟨h1, rfl⟩ := ite_some h
  have hi : isI (FTy ci k) = true := by rcases hty with hz | ⟨hz, -⟩ <;> rw [hz] <;> rfl
  refine rn_putG (u1 := sI u a k v) ok hk hw hfin hd h1 ?_ ?_ rfl (fun j => ?_) (fun b hb => ⟨fun j => ?_, fun j => rfl, fun j => rfl⟩) kk
  · rcases hty with hz | ⟨hz, rfl | rfl⟩ <;> rw [hz] <;> rfl
  · rcases hty with hz | ⟨hz, rfl | rfl⟩ <;> rw [hz] <;> rfl
  · unfold fv
    by_cases hj : j = k
    · subst hj
      rw [if_pos rfl, fvO_int hi, mI_sI, if_pos ⟨rfl, rfl⟩]; rfl
    · rw [if_neg hj, mI_sI, if_neg (fun z => hj z.2), mR_sI]
  · rw [mI_sI, if_neg (fun z => hb z.1)]
theorem rn_putR {k idx : Nat} {r v : Option Nat} {u1 : Mem} (ok : clsOK ci C T N) (hk : k < N) (hw : Cond.fieldLink M.1.cls idx (T k).1 (T k).2.1 (T k).2.2.1 ∈ lw_g) (hfin : (T k).2.2.2 = false ∨ ((T k).2.2.2 = true ∧ M.1.name = "<init>" ∧ (T k).1 = M.1.cls)) (hty : isI (FTy ci k) = false) (hd : decode M.2.1 pc = .ok (.putfield idx, 3)) (h : pfR u r ci k v = some u1)
    (kk : Rn l G M d (pc + 3) lv st u1 o u') : Rn l G M d pc lv (rv v :: rv r :: st) u o u' := by
  obtain ⟨a, rfl, h⟩ := bnd_some h
  obtain ⟨h1, rfl⟩ := ite_some h
  refine rn_putG (u1 := sR u a k v) ok hk hw hfin hd h1 ?_ ?_ rfl (fun j => ?_) (fun b hb => ⟨fun j => rfl, fun j => rfl, fun j => ?_⟩) kk
  · cases hq : FTy ci k <;> rw [hq] at hty <;> first | (cases v <;> rfl) | cases hty
  · cases hq : FTy ci k <;> rw [hq] at hty <;> first | (cases v <;> rfl) | cases hty
  · unfold fv
    by_cases hj : j = k
    · subst hj
      rw [if_pos rfl, fvO_ref hty, mR_sR, if_pos ⟨rfl, rfl⟩, gv_rv]
    · rw [if_neg hj, mR_sR, if_neg (fun z => hj z.2), mI_sR]
  · rw [mR_sR, if_neg (fun z => hb z.1)]
end RN3
