/-! a method with an exception table: its contract, its call -/
def mwsW (M : MI) (hh : List (Nat × Nat × Nat × Nat)) : List Cond := Cond.codeWith M.1 M.2.1 M.2.2.1 M.2.2.2 hh :: lw_g
def ExW (l : Launch) (G : Gt) (M : MI) (hh : List (Nat × Nat × Nat × Nat)) (d : Nat) (avs : List Value) (u : Mem) (o : Outcome) (u' : Mem) : Prop :=
  mN u ≤ mN u' ∧ M.2.2.1 ≤ 41 ∧ Met l M.1 (mwsW M hh) (rmD d (mN u' - mN u) (KT (mN u') - KT (mN u))) (exP G avs u) (Qc G o u') (mN u' - mN u) (KT (mN u') - KT (mN u)) (gU G)
theorem ExW.of {l : Launch} {G : Gt} {M : MI} {hh : List (Nat × Nat × Nat × Nat)} {d : Nat} {avs : List Value} {u u' : Mem} {v : Option Value} (hp : plainName M.1.cls = true) (hm : M.2.2.1 ≤ 41) (hl : (lg_sl avs).length ≤ M.2.2.1) {lv : List (Nat × Value)} (hlv : lv_args 0 avs = lv) (hxt : XT M.1 = some hh) (h : Rn l G M d 0 lv [] u (.returned v) u') : ExW l G M hh d avs u (.returned v) u' := by
  subst hlv
  refine ⟨h.1, hm, va_MetW (cc := M.2.1) (maxL := M.2.2.1) (ret := M.2.2.2) (hh := hh) hp rfl ?_⟩
  intro p e s m args below meth c s₁ B hml hv
  obtain ⟨rfl, hWd, hM⟩ := hv
  have hts := atoms_spec (ws := mwsW M hh) B.pre
  have hent := lv_entry (avs.map (gv G)) (n := M.2.2.1) (by rw [lg_sl_gv]; exact hl)
  rw [lg_entry_eq]
  generalize (lg_sl (avs.map (gv G)) ++ List.replicate (M.2.2.1 - (lg_sl (avs.map (gv G))).length) Slot.unset).toArray = ls at hent ⊢
  rw [lv_args_gv] at hent
  have h2 := h.2 p e (rmD d (mN u' - mN u) (KT (mN u') - KT (mN u))) s m (avs.map (gv G)).toArray below meth c s.heap [] 0 0 ls
    ⟨B.exec, B.bytes, hml, B.returns, B.notSynchronized, fun _ => (name_of_methodNamed B.named B.method).1, findClass_of_methodNamed B.named, fun w hw => hts w (List.mem_cons_of_mem _ hw), hWd, Nat.le_refl _, Nat.le_refl _, fun hh2 e => by
      rw [hxt] at e
      cases e
      obtain ⟨m9, meth9, c9, w1, w2, w3, w4, w5, w6, -⟩ := Cond.codeWith_spec (hts _ List.mem_cons_self)
      cases B.named.symm.trans w1
      cases B.method.symm.trans w2
      cases (Stand.of_body B).code.symm.trans w3
      exact w6⟩
    hent hM va_S.rf (Nat.le_of_eq (Nat.zero_add _)) (Nat.le_of_eq (Nat.zero_add _))
  rw [Nat.zero_add, Nat.zero_add] at h2
  exact h2
section RN11
variable {l : Launch} {G : Gt} {M M1 : MI} {d d1 pc : Nat} {lv : List (Nat × Value)} {st rest As : List Value} {u u1 u' : Mem} {o : Outcome} {v : Option Value} {T : u_T} {N ci idx n b : Nat} {hh : List (Nat × Nat × Nat × Nat)}
theorem Rn.clW {avs : List Value} (h0 : mN u ≤ mN u1) (k : Rn l G M d (pc + 3) lv (v.toList ++ rest) u1 o u')
    (h : ∀ (p : Program) (e : Env) (R : Room) (s : State) (m : MethodId) (args : Array Value) (below : List Frame) (meth : Method) (c : Code) (H : Heap) (locs : List Loc) (cells slots : Nat) (ls : Array Slot), Cx G M d p R s m args meth c → lv_has ls M.2.2.1 (lv.map (gq G)) → MemAt G u H → va_S (gU G) s.heap H locs → (cells + (mN u1 - mN u) ≤ R.cells ∧ slots + (KT (mN u1) - KT (mN u)) ≤ R.slots) →
      va_Run p l e R s m args below meth c H locs cells slots (mN u1 - mN u) (KT (mN u1) - KT (mN u)) (F0 m pc ls (st.map (gv G))) (rest.map (gv G)) (Qc G (.returned v) u1 ((avs.map (gv G)).toArray)) (gU G)) : Rn l G M d pc lv st u o u' := by
  have h1 := k.1
  have hm0 : KT (mN u) ≤ KT (mN u1) := KT_mono h0
  have hm1 : KT (mN u1) ≤ KT (mN u') := KT_mono h1
  refine ⟨by omega, fun p e R s m args below meth c H locs cells slots ls C hl hM hS hc hs => ?_⟩
  refine run_ret (h p e R s m args below meth c H locs cells slots ls C hl hM hS ⟨by omega, by omega⟩) hS (fun H1 locs1 hM1 hS1 => ?_)
  have k3 := k.2 p e R s m args below meth c H1 locs1 (cells + (mN u1 - mN u)) (slots + (KT (mN u1) - KT (mN u))) ls C hl hM1 hS1 (by omega) (by omega)
  have e1 : cells + (mN u1 - mN u) + (mN u' - mN u1) = cells + (mN u' - mN u) := by omega
  have e2 : slots + (KT (mN u1) - KT (mN u)) + (KT (mN u') - KT (mN u1)) = slots + (KT (mN u') - KT (mN u)) := by omega
  rw [e1, e2, tl_gv] at k3
  exact k3
theorem rn_callVW (hE : ExW l G M1 hh d1 (rv (some b) :: As) u (.returned v) u1) (hd1 : d1 + 1 ≤ d) (ok : clsOK ci M1.1.cls T N) (hb : okc u b ci = true) (hco : Cond.codeWith M1.1 M1.2.1 M1.2.2.1 M1.2.2.2 hh ∈ lw_g) (hi : Cond.initialized M1.1.cls ∈ lw_g) (hl : Cond.methodLink M.1.cls idx M1.1 ∈ lw_g) (hin : Cond.instanceMethod M1.1 ∈ lw_g) (hse : Cond.selects M1.1.cls M1.1 M1.1 ∈ lw_g)
    (hd : M1.1.cls ≠ "java/lang/invoke/MethodHandle" ∧ M1.1.cls ≠ "java/lang/invoke/VarHandle" ∧ (parseMethodDescriptor M1.1.desc).map (fun d => d.parameters.length) = some n) (hn : As.length = n) (hst : (rest.map fun v => v.category).sum ≤ 8) (hdg : decode M.2.1 pc = .ok (.invokevirtual idx, 3)) (hq : st = As.reverse ++ rv (some b) :: rest)
    (k : Rn l G M d (pc + 3) lv (v.toList ++ rest) u1 o u') : Rn l G M d pc lv st u o u' := by
  subst hq
  refine Rn.clW (avs := rv (some b) :: As) hE.1 k fun p e R s m args below meth c H locs cells slots ls C hl' hM hS hf => ?_
  have hfr := C.fr
  have hlo := C.lo
  have hml := hE.2.1
  have hG : GoodIn lw_g (mwsW M1 hh) := fun w hw => by
    rcases List.mem_cons.mp hw with rfl | hw
    · exact ⟨hco, good_of_word (lw_g_good _ hco)⟩
    · exact ⟨hw, good_of_word (lw_g_good _ hw)⟩
  have hK : Back l R p e below s args M1.1 3 8 (PreOf R (mN u1 - mN u) (KT (mN u1) - KT (mN u)) (exP G (rv (some b) :: As) u)) (PostOf (Qc G (.returned v) u1) (mN u1 - mN u) (KT (mN u1) - KT (mN u)) (gU G)) :=
    va_backW (bytes := M1.2.1) (maxL := M1.2.2.1) (ret := M1.2.2.2) (hh := hh) hE.2.2 (exP_blind G _ u) rfl rfl (by show d1 + 1 ≤ _; omega) (by show 8 + (M1.2.2.1 + 11) + 60 * d1 ≤ _; omega) (pay_in C.hts hG) List.mem_cons_self (fun a' U hW => word_at hW (Or.inl (by first | rfl | simp [Cond.onTables, Cond.keeps, Cond.steady])) (C.hts _ hi))
  obtain ⟨hb1, hb2⟩ := okc_spec hb
  obtain ⟨cellB, q1, q2, q3, -⟩ := hM.obj hb1 hb2 ok.1
  have hcl := (C.wd.1 ci _ ok.2.1).2.1
  obtain ⟨mk, methM, hnamed, hmethM, hstM, habM⟩ := Cond.instanceMethod_spec (C.hts _ hin)
  obtain ⟨m9, meth9, c9, x1, x2, -, -, -, -, -, -, hsigM⟩ := Cond.codeWith_spec (C.hts _ hco)
  cases hnamed.symm.trans x1
  cases hmethM.symm.trans x2
  obtain ⟨c2, r2, m2, w1, w2, w3, w4, kP, hkP, hkPi⟩ := Cond.selects_spec (C.hts _ hse)
  have hcls : s.vm.findClass M1.1.cls = some cellB.cls := by rw [q2]; exact hcl
  cases hcls.symm.trans w1
  cases (State.methodFound?_of_named hnamed ⟨hd.1, hd.2.1⟩).symm.trans w2
  cases hnamed.symm.trans w3
  have hlen : (As.map (gv G)).length = methM.sig.parameters.length := by
    have h2 := hd.2.2
    rw [hsigM] at h2
    rw [List.length_map, hn]
    exact (Option.some.inj h2).symm
  intro T0 hT X
  have hselP : selectMethod e.platform s.vm cellB.cls mk = .method mk := by rw [Launch.admits_selectMethod X.admits]; exact w4
  obtain ⟨vm₁, X₁, hstep₁⟩ := X.invokevirtual C.1 C.own (C.hts _ hl) hnamed hmethM hstM hkP hkPi ⟨hd.1, hd.2.1⟩ (a := gr G b) (cell := cellB) (by rw [hT]; exact q1)
    (fun z h => by rw [q3] at h; cases h) hselP hmethM habM hkP hkPi (g := F0 m pc ls ((As.reverse ++ rv (some b) :: rest).map (gv G))) rfl (argsL := As.map (gv G)) (rest := rest.map (gv G)) hlen (by rw [List.map_append, List.map_reverse, List.map_cons]; rfl) (by rw [C.2.1]; exact hdg)
  obtain ⟨v', ⟨U', l2, c2, s2⟩, X', ⟨g', mk', t, L, e1, e2, hq, h1, hL, h2, h3⟩, hsteps⟩ := hK m meth c ⟨T0.setVm vm₁, locs, cells, slots⟩ (F0 m pc ls (rest.map (gv G))) (.invokevirtual idx) mk ((rv (some b) :: As).map (gv G)).toArray X₁ rfl (by rw [C.2.2.1]; exact hl'.1) (by rw [C.2.1]; exact hdg) (lv_room (by rw [cat_gv]; exact hst)) (X₁.named hnamed) ⟨hf.1, hf.2, exP_at C.wd hM hS (T0.setVm vm₁) hT X₁.warmed⟩
  dsimp only [Pt.U, Pt.locs, Pt.cells, Pt.slots] at X' e1 e2 h1 h2 h3 hsteps
  subst h1; subst h2; subst h3
  exact ⟨v', (T0.setVm vm₁).calling g' mk' ((rv (some b) :: As).map (gv G)).toArray, t, U', L, hT, X', hL, e1, e2, hq, fun target h => hstep₁ _ fun acts => by rw [doInvoke_state]; exact hsteps.trans h⟩
end RN11
