/-! new cells, returns, contracts, calls -/
theorem rv_cat (r : Option Nat) : (rv r).category = 1 := by cases r <;> rfl
theorem Wd.moved {G : Gt} {s U : State} (h : Wd G s) (hW : s.WarmedH U.vm) (hz : gB G ≤ U.heap.size) (hq : ∀ a : Nat, a < s.heap.size → ¬ gU G a → U.heap[a]? = s.heap[a]?) : Wd G U := by
  have ha := hW.alike
  obtain ⟨h1, h2, ⟨⟨x1, x2, x3, x4, x5, x6, x7, x8⟩, n1, n2, n3⟩, hb⟩ := h
  exact ⟨fun ci q hq => u_Kn_moved ha (h1 ci q hq), fun c c1 c2 => ⟨arrOfT_moved ha (h2 c c1 c2).1, (h2 c c1 c2).2.moved ha⟩,
    ⟨⟨fun i hi => (StrB.moved ha (x1 i hi)).kept hq, fun i hi => ⟨vk_R.warm hW (x2 i hi).1, vk_R.warm hW (x2 i hi).2⟩, (va_Z.moved ha x3).kept hq, (va_Z.moved ha x4).kept hq, (va_Z.moved ha x5).kept hq, (va_Z.moved ha x6).kept hq,
      (va_X.moved ha x7).kept (hq _ (Nat.lt_of_lt_of_le x8 hb) (Nat.not_le.mpr x8)), x8⟩, fun q hq => va_Nw.warmM hW (n1 q hq), va_AO.moved ha n2, va_AO.moved ha n3⟩, hz⟩
section RN5
variable {l : Launch} {G : Gt} {M : MI} {d pc : Nat} {lv lv' : List (Nat × Value)} {st : List Value} {u u' : Mem} {o : Outcome} {C : String} {T : u_T} {N ci : Nat}
theorem nwc_spec {c n a : Nat} {u1 : Mem} (h : nwc u c n = some (a, u1)) : mN u < 1000000 ∧ KF (mN u) = (c, n) ∧ a = mN u ∧ u1 = sN u := by
  unfold nwc at h
  obtain ⟨h1, h2⟩ := ite_some h
  rw [Bool.and_eq_true] at h1
  cases h2
  exact ⟨of_decide_eq_true h1.1, eq_of_beq h1.2, rfl, rfl⟩
/-- the memory with a new cell, seen from before -/
theorem Rn.nw {pc2 : Nat} {st2 : List Value} {n : Nat} (hn : (KF (mN u)).2 = n) (k : Rn l G M d pc2 lv st2 (sN u) o u')
    (h : ∀ (p : Program) (e : Env) (R : Room) (s : State) (m : MethodId) (args : Array Value) (below : List Frame) (meth : Method) (c : Code) (H : Heap) (locs : List Loc) (cells slots : Nat) (ls : Array Slot) (Q : State → Prop), Cx G M d p R s m args meth c → lv_has ls M.2.2.1 (lv.map (gq G)) → MemAt G u H → va_S (gU G) s.heap H locs → cells + 1 ≤ R.cells → slots + n ≤ R.slots →
      (∀ (H1 : Heap) (locs1 : List Loc), MemAt G (sN u) H1 → va_S (gU G) s.heap H1 locs1 → W p l e R s m args below meth c H1 locs1 (cells + 1) (slots + n) Q (F0 m pc2 ls (st2.map (gv G)))) → W p l e R s m args below meth c H locs cells slots Q (F0 m pc ls (st.map (gv G)))) : Rn l G M d pc lv st u o u' := by
  have h1 := k.1
  rw [mN_sN] at h1
  have hKT : KT (mN u + 1) = KT (mN u) + n := by rw [KT, hn]
  have hmo : KT (mN u + 1) ≤ KT (mN u') := KT_mono h1
  refine ⟨by omega, fun p e R s m args below meth c H locs cells slots ls C hl hM hS hc hs => ?_⟩
  have k2 := k.2 p e R s m args below meth c
  rw [mN_sN] at k2
  refine h p e R s m args below meth c H locs cells slots ls _ C hl hM hS (by omega) (by omega) (fun H1 locs1 hM1 hS1 => ?_)
  have k3 := k2 H1 locs1 (cells + 1) (slots + n) ls C hl hM1 hS1 (by omega) (by omega)
  have e1 : cells + 1 + (mN u' - (mN u + 1)) = cells + (mN u' - mN u) := by omega
  have e2 : slots + n + (KT (mN u') - KT (mN u + 1)) = slots + (KT (mN u') - KT (mN u)) := by omega
  rw [e1, e2] at k3
  exact k3
theorem va_S.grow {A : Nat → Prop} {H0 H H1 : Heap} {locs : List Loc} (hS : va_S A H0 H locs) (hz : H1.size = H.size + 1) (ho : ∀ q : Nat, q < H.size → H1[q]? = H[q]?) : va_S A H0 H1 locs :=
  ⟨Nat.le_trans hS.1 (by omega), fun x h1 h2 => (ho x (Nat.lt_of_lt_of_le h1 hS.1)).trans (hS.2.1 x h1 h2), hS.2.2⟩
theorem rn_new {idx a : Nat} {u1 : Mem} (ok : clsOK ci C T N) (hdef : ∀ k, k < N → defaultValue (FTy ci k) = fvO (FTy ci k) 0 none) (hw1 : Cond.classLink M.1.cls idx C ∈ lw_g) (hw2 : Cond.instantiable C N ∈ lw_g) (hw3 : Cond.initialized C ∈ lw_g) (hd : decode M.2.1 pc = .ok (.new idx, 3)) (h : nwc u ci N = some (a, u1))
    (kk : Rn l G M d (pc + 3) lv (rv (some a) :: st) u1 o u') : Rn l G M d pc lv st u o u' := by
  obtain ⟨hlt, hK, rfl, rfl⟩ := nwc_spec h
  have hK2 : (KF (mN u)).2 = N := by rw [hK]
  refine Rn.nw hK2 kk fun p e R s m args below meth c H locs cells slots ls Q C0 hl hM hS hc hs kk => ?_
  have hKn := C0.wd.1 ci _ ok.2.1
  refine W.newcK C0.1 C0.2.1 C0.own (C0.hts _ hw1) (C0.hts _ hw2) (C0.hts _ hw3) rfl hd hc hs hKn.2.1 rfl fun H1 kC hkC e1 z1 o1 => ?_
  have hz : gr G (mN u) = H.size := by rw [hM.1]; exact if_pos hlt
  have k1 := kk H1 locs (hM.new hlt z1 o1 ?_) (hS.grow z1 o1)
  · rw [List.map_cons, show gv G (rv (some (mN u))) = .ref H.size by show Value.ref _ = _; rw [hz]] at k1
    exact k1
  · unfold cellAt
    rw [hK, if_pos ok.1, ← hM.1]
    refine (u_born (FTy ci) C0.hts ok.2.2.1 hKn hkC e1 ok.2.2.2.1).to (fun k hk => ?_)
    show _ = fv G (sN u) ci (mN u) k
    unfold fv
    rw [mI_sN, if_pos rfl, mR_sN, if_pos rfl]
    exact hdef k hk
theorem rn_newa {n : Int32} {a N code : Nat} {atype : ArrayType} {u1 : Mem} (hcode : 20 ≤ code ∧ code ≤ 23) (hty : newarray.typeOf atype = aty code) (hw : Cond.arrayClass (newarray.typeOf atype) ∈ lw_g) (hn : ¬ n < 0) (hN : n.toNatClampNeg = N) (hby : N * componentBytes (newarray.typeOf atype) ≤ 536870912) (hd : decode M.2.1 pc = .ok (.newarray atype, 2)) (h : nwc u code N = some (a, u1))
    (kk : Rn l G M d (pc + 2) lv (rv (some a) :: st) u1 o u') : Rn l G M d pc lv (.int n :: st) u o u' := by
  obtain ⟨hlt, hK, rfl, rfl⟩ := nwc_spec h
  have hK2 : (KF (mN u)).2 = N := by rw [hK]
  refine Rn.nw hK2 kk fun p e R s m args below meth c H locs cells slots ls Q C0 hl hM hS hc hs kk => ?_
  refine va_newaK C0.1 C0.2.1 (C0.hts _ hw) rfl hd rfl hn hN hby hc hs rfl fun H1 cA e1 z1 o1 hAr hNm => ?_
  have hz : gr G (mN u) = H.size := by rw [hM.1]; exact if_pos hlt
  have hcA : cA = gAc G code := by
    have h1 := (C0.wd.2.1 code hcode.1 (by omega)).2
    rw [hty] at hNm
    have h2 : s.vm.findClass ("[" ++ (aty code).toString) = some (gAc G code) := by
      rcases (show code = 20 ∨ code = 21 ∨ code = 22 ∨ code = 23 by omega) with rfl | rfl | rfl | rfl <;> exact h1
    exact Option.some.inj (hNm.symm.trans h2)
  have k1 := kk H1 locs (hM.new hlt z1 o1 ?_) (hS.grow z1 o1)
  · rw [List.map_cons, show gv G (rv (some (mN u))) = .ref H.size by show Value.ref _ = _; rw [hz]] at k1
    exact k1
  · unfold cellAt
    rw [hK, if_neg (by show ¬ code < 20; omega), ← hM.1, e1, hcA, hty]
    congr 2
    funext j
    rcases (show code = 20 ∨ code = 21 ∨ code = 22 ∨ code = 23 by omega) with rfl | rfl | rfl | rfl
    · show Value.int 0 = .int (mI (sN u) (mN u) j); rw [mI_sN, if_pos rfl]
    · show Value.int 0 = .int (mI (sN u) (mN u) j); rw [mI_sN, if_pos rfl]
    · show Value.int 0 = .int (mI (sN u) (mN u) j); rw [mI_sN, if_pos rfl]
    · show Value.long 0 = .long (mL (sN u) (mN u) j); rw [mL_sN, if_pos rfl]
theorem rn_newq {n : Int32} {a N code idx : Nat} {E : String} {u1 : Mem} (hcode : code = 24 ∧ E = "ForeBook$Question" ∨ code = 25 ∧ E = "ForeBook$Guess") (hw : Cond.classLink M.1.cls idx E ∈ lw_g) (hn : ¬ n < 0) (hN : n.toNatClampNeg = N) (hby : N * 4 ≤ 536870912) (hd : decode M.2.1 pc = .ok (.anewarray idx, 3)) (h : nwc u code N = some (a, u1))
    (kk : Rn l G M d (pc + 3) lv (rv (some a) :: st) u1 o u') : Rn l G M d pc lv (.int n :: st) u o u' := by
  obtain ⟨hlt, hK, rfl, rfl⟩ := nwc_spec h
  have hK2 : (KF (mN u)).2 = N := by rw [hK]
  have hEt : aty code = .object E := by rcases hcode with ⟨rfl, rfl⟩ | ⟨rfl, rfl⟩ <;> rfl
  refine Rn.nw hK2 kk fun p e R s m args below meth c H locs cells slots ls Q C0 hl hM hS hc hs kk => ?_
  have hov : (Cond.arrayOver (.object E)).before args s = true := by rcases hcode with ⟨-, rfl⟩ | ⟨-, rfl⟩; exact va_AO.use C0.wd.2.2.1.2.2.1; exact va_AO.use C0.wd.2.2.1.2.2.2
  subst hN
  refine W.anew C0.1 C0.2.1 C0.own (C0.hts _ hw) hov rfl hd rfl hn hby hc hs fun cA kA comp f1 f2 f3 f4 => ?_
  generalize hH1 : H.push ({ cls := cA, slots := Array.replicate n.toNatClampNeg .null, vm := .none } : Cell) = H1
  have z1 : H1.size = H.size + 1 := by rw [← hH1, Array.size_push]
  have e1 : H1[H.size]? = some (arrV cA n.toNatClampNeg (fun _ => .null)) := by rw [← hH1, Array.getElem?_push_size, ← arrV_new]
  have o1 : ∀ q : Nat, q < H.size → H1[q]? = H[q]? := fun q hq => by rw [← hH1, Array.getElem?_push, if_neg (Nat.ne_of_lt hq)]
  have hz : gr G (mN u) = H.size := by rw [hM.1]; exact if_pos hlt
  have hcA : cA = gAc G code := by
    have h1 := (C0.wd.2.1 code (by omega) (by omega)).2
    rw [hEt] at h1
    obtain ⟨_, _, _, _, _, h5⟩ := h1
    exact Option.some.inj (f1.symm.trans h5)
  have k1 := kk H1 locs (hM.new hlt z1 o1 ?_) (hS.grow z1 o1)
  · rw [List.map_cons, show gv G (rv (some (mN u))) = .ref H.size by show Value.ref _ = _; rw [hz]] at k1
    exact k1
  · unfold cellAt
    rw [hK, if_neg (by show ¬ code < 20; omega), ← hM.1, e1, hcA]
    congr 2
    funext j
    rcases hcode with ⟨rfl, -⟩ | ⟨rfl, -⟩ <;> (show Value.null = va_rf ((mR (sN u) (mN u) j).map (gr G)); rw [mR_sN, if_pos rfl]; rfl)
/-- the end of a method -/
theorem Rn.end {v : Option Value} (h : ∀ (p : Program) (e : Env) (R : Room) (s : State) (m : MethodId) (args : Array Value) (below : List Frame) (meth : Method) (c : Code) (H : Heap) (locs : List Loc) (cells slots : Nat) (ls : Array Slot), Cx G M d p R s m args meth c → (∀ t : State, t.heap = H → s.WarmedH t.vm → Qc G (.returned v) u args s (gO G (.returned v)) t) → (∀ q ∈ locs, gU G q.base) →
    W p l e R s m args below meth c H locs cells slots (MQ below (Qc G (.returned v) u) args s cells slots (gU G)) (F0 m pc ls (st.map (gv G)))) : Rn l G M d pc lv st u (.returned v) u := by
  refine ⟨Nat.le_refl _, fun p e R s m args below meth c H locs cells slots ls C hl hM hS hc hs => ?_⟩
  rw [Nat.sub_self, Nat.sub_self, Nat.add_zero, Nat.add_zero]
  exact h p e R s m args below meth c H locs cells slots ls C (fun t ht _ => ⟨rfl, by rw [ht]; exact hM, hS.F ht⟩) hS.2.2
theorem rn_iret {v : Int32} (hr : M.2.2.2 = some .int) (hd : decode M.2.1 pc = .ok (.ireturn, 1)) : Rn l G M d pc lv [.int v] u (.returned (some (.int v))) u :=
  Rn.end fun _ _ _ _ _ _ _ _ _ _ _ _ _ _ C hq hf => W.iret C.1 C.2.1 (C.2.2.2.1.trans hr) hq hf hd C.2.2.2.2.1
theorem rn_zret {v : Int32} (hv : v = 0 ∨ v = 1) (hr : M.2.2.2 = some .boolean) (hd : decode M.2.1 pc = .ok (.ireturn, 1)) : Rn l G M d pc lv [.int v] u (.returned (some (.int v))) u :=
  Rn.end fun _ _ _ _ _ _ _ _ _ _ _ _ _ _ C hq hf => W.zret C.1 C.2.1 (C.2.2.2.1.trans hr) (by rcases hv with rfl | rfl <;> rfl) hq hf hd C.2.2.2.2.1
theorem rn_lret {v : Int64} (hr : M.2.2.2 = some .long) (hd : decode M.2.1 pc = .ok (.lreturn, 1)) : Rn l G M d pc lv [.long v] u (.returned (some (.long v))) u :=
  Rn.end fun _ _ _ _ _ _ _ _ _ _ _ _ _ _ C hq hf => W.lret C.1 C.2.1 (C.2.2.2.1.trans hr) hq hf hd C.2.2.2.2.1
theorem rn_vret (hr : M.2.2.2 = none) (hd : decode M.2.1 pc = .ok (.return_, 1)) : Rn l G M d pc lv [] u (.returned none) u :=
  Rn.end fun _ _ _ _ _ _ _ _ _ _ _ _ _ _ C hq hf => W.vret C.1 C.2.1 (C.2.2.2.1.trans hr) hq hf hd C.2.2.2.2.1
theorem rn_aret {E : String} {v : Option Nat} (hr : M.2.2.2 = some (.object E)) (hd : decode M.2.1 pc = .ok (.areturn, 1)) : Rn l G M d pc lv [rv v] u (.returned (some (rv v))) u :=
  Rn.end fun _ _ _ _ _ _ _ _ _ _ _ _ _ _ C hq hf => W.aret C.1 C.2.1 (C.2.2.2.1.trans hr) (Or.inl ⟨E, rfl⟩) (by cases v with | none => exact Or.inl rfl | some a => exact Or.inr ⟨_, rfl⟩) hq hf hd C.2.2.2.2.1
end RN5
/-! CONTRACTS: the method, called with these values in this memory, ends so -/
def exP (G : Gt) (avs : List Value) (u : Mem) : Array Value → State → Prop := fun v U => v = (avs.map (gv G)).toArray ∧ Wd G U ∧ MemAt G u U.heap
def rmD (d mc ms : Nat) : Room := { frames := d, cells := mc, slots := ms, locals := 60 * d }
def mws (M : MI) : List Cond := Cond.code M.1 M.2.1 M.2.2.1 M.2.2.2 :: lw_g
def Ex (l : Launch) (G : Gt) (M : MI) (d : Nat) (avs : List Value) (u : Mem) (o : Outcome) (u' : Mem) : Prop :=
  mN u ≤ mN u' ∧ M.2.2.1 ≤ 41 ∧ Met l M.1 (mws M) (rmD d (mN u' - mN u) (KT (mN u') - KT (mN u))) (exP G avs u) (Qc G o u') (mN u' - mN u) (KT (mN u') - KT (mN u)) (gU G)
theorem lg_sl_gv (G : Gt) (vs : List Value) : (lg_sl (vs.map (gv G))).length = (lg_sl vs).length := by
  induction vs with
  | nil => rfl
  | cons v vs ih =>
    unfold lg_sl at ih ⊢
    rw [List.map_cons, List.flatMap_cons, List.flatMap_cons, List.length_append, List.length_append, ih, gv_cat]
    by_cases h : v.category = 2
    · rw [if_pos h, if_pos h]; rfl
    · rw [if_neg h, if_neg h]; rfl
theorem lv_args_gv (G : Gt) (vs : List Value) : ∀ i, lv_args i (vs.map (gv G)) = (lv_args i vs).map (gq G) := by
  induction vs with
  | nil => intro i; rfl
  | cons v vs ih =>
    intro i
    rw [List.map_cons, lv_args, lv_args, List.map_cons, ih, gv_cat]
    rfl
theorem Ex.of {l : Launch} {G : Gt} {M : MI} {d : Nat} {avs : List Value} {u u' : Mem} {v : Option Value} (hp : plainName M.1.cls = true) (hm : M.2.2.1 ≤ 41) (hl : (lg_sl avs).length ≤ M.2.2.1) {lv : List (Nat × Value)} (hlv : lv_args 0 avs = lv) (h : Rn l G M d 0 lv [] u (.returned v) u') (hxt : XT M.1 = some [] := by decide +kernel) : Ex l G M d avs u (.returned v) u' := by
  subst hlv
  refine ⟨h.1, hm, Met.ofW (cc := M.2.1) (maxL := M.2.2.1) (ret := M.2.2.2) hp rfl ?_⟩
  intro p e s m args below meth c s₁ B hml hv
  obtain ⟨rfl, hWd, hM⟩ := hv
  have hts := atoms_spec (ws := mws M) B.pre
  have hent := lv_entry (avs.map (gv G)) (n := M.2.2.1) (by rw [lg_sl_gv]; exact hl)
  rw [lg_entry_eq]
  generalize (lg_sl (avs.map (gv G)) ++ List.replicate (M.2.2.1 - (lg_sl (avs.map (gv G))).length) Slot.unset).toArray = ls at hent ⊢
  rw [lv_args_gv] at hent
  have h2 := h.2 p e (rmD d (mN u' - mN u) (KT (mN u') - KT (mN u))) s m (avs.map (gv G)).toArray below meth c s.heap [] 0 0 ls
    ⟨B.exec, B.bytes, hml, B.returns, B.notSynchronized, fun _ => (name_of_methodNamed B.named B.method).1, findClass_of_methodNamed B.named, fun w hw => hts w (List.mem_cons_of_mem _ hw), hWd, Nat.le_refl _, Nat.le_refl _, fun hh e => by
      have he := B.noHandlers (hts _ List.mem_cons_self)
      rw [hxt] at e
      cases e
      have h0 : c.exceptionTable.size = 0 := by simpa [Array.isEmpty] using he
      have h1 : c.exceptionTable.toList = [] := List.eq_nil_of_length_eq_zero (by simpa using h0)
      rw [h1]
      rfl⟩
    hent hM va_S.rf (Nat.le_of_eq (Nat.zero_add _)) (Nat.le_of_eq (Nat.zero_add _))
  rw [Nat.zero_add, Nat.zero_add] at h2
  exact h2
theorem exP_blind (G : Gt) (avs : List Value) (u : Mem) : FrameBlind (exP G avs u) := fun a U g mk h => ⟨h.1, h.2.1.moved (State.WarmedH.refl U) h.2.1.2.2.2 (fun _ _ _ => rfl), h.2.2⟩
theorem gi_g (M : MI) (hc : Cond.code M.1 M.2.1 M.2.2.1 M.2.2.2 ∈ lw_g) : GoodIn lw_g (mws M) := fun w hw => by
  rcases List.mem_cons.mp hw with rfl | hw
  · exact ⟨hc, good_of_word (lw_g_good _ hc)⟩
  · exact ⟨hw, good_of_word (lw_g_good _ hw)⟩
