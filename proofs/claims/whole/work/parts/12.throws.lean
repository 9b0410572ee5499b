/-! methods that throw -/
def ExT (l : Launch) (G : Gt) (M : MI) (d : Nat) (avs : List Value) (u : Mem) (a : Nat) (u' : Mem) : Prop :=
  mN u ≤ mN u' ∧ M.2.2.1 ≤ 41 ∧ MetFree l M.1 (headSpec (mws M) (rmD d (mN u' - mN u) (KT (mN u') - KT (mN u)))) (exP G avs u) (fun _ _ _ _ _ => True)
    (fun _ st o t => o = .threw (gr G a) ∧ MemAt G u' t.heap ∧ va_F (gU G) st t ∧ st.WarmedH t.vm ∧ ∃ L, st.sameButNew ({ t with vm := st.vm } : State) L (mN u' - mN u) (KT (mN u') - KT (mN u)) ∧ ∀ q ∈ L, gU G q.base)
theorem ExT.of {l : Launch} {G : Gt} {M : MI} {d : Nat} {avs : List Value} {u u' : Mem} {a : Nat} (hp : plainName M.1.cls = true) (hm : M.2.2.1 ≤ 41) (hl : (lg_sl avs).length ≤ M.2.2.1) {lv : List (Nat × Value)} (hlv : lv_args 0 avs = lv) (h : Rn l G M d 0 lv [] u (.threw a) u') (hxt : XT M.1 = some [] := by decide +kernel) : ExT l G M d avs u a u' := by
  subst hlv
  refine ⟨h.1, hm, MetFree.of_bodyS (code := M.2.1) (maxLocals := M.2.2.1) (ret := M.2.2.2) hp ?_ ?_⟩
  · intro args s m h hn
    obtain ⟨meth, c, h1, h2, h3, h4, h5, h6, -, -⟩ := Cond.code_spec hn (atoms_spec (ws := mws M) h _ List.mem_cons_self)
    exact ⟨meth, c, h1, h2, h3, h4, h5, h6⟩
  · intro p e s m args below meth c s₁ B hml hv _
    have hh0 : s₁.heap = s.heap := by rw [B.state]; rfl
    obtain ⟨rfl, hWd, hM⟩ := hv
    have hts := atoms_spec (ws := mws M) B.pre
    have hent := lv_entry (avs.map (gv G)) (n := M.2.2.1) (by rw [lg_sl_gv]; exact hl)
    rw [lg_entry_eq]
    generalize (lg_sl (avs.map (gv G)) ++ List.replicate (M.2.2.1 - (lg_sl (avs.map (gv G))).length) Slot.unset).toArray = ls at hent ⊢
    rw [lv_args_gv] at hent
    have h2 := h.2 p e (rmD d (mN u' - mN u) (KT (mN u') - KT (mN u))) s m (avs.map (gv G)).toArray below meth c s.heap [] 0 0 ls
      ⟨B.exec, B.bytes, hml, B.returns, B.notSynchronized, fun _ => (name_of_methodNamed B.named B.method).1, findClass_of_methodNamed B.named, fun w hw => hts w (List.mem_cons_of_mem _ hw), hWd, Nat.le_refl _, Nat.le_refl _, fun hh e => by
        have he := B.noHandlers (hts _ List.mem_cons_self)
        rw [hxt] at e
        cases e
        have h0 : c.exceptionTable.size = 0 := by simpa [Array.isEmpty] using he
        have h1 : c.exceptionTable.toList = [] := List.eq_nil_of_length_eq_zero (by simpa using h0)
        rw [h1]
        rfl⟩
      hent hM va_S.rf (Nat.le_of_eq (Nat.zero_add _)) (Nat.le_of_eq (Nat.zero_add _))
    rw [Nat.zero_add, Nat.zero_add] at h2
    obtain ⟨t, a1, b1, b2, b3, b4, b5, b6⟩ := h2 s₁ hh0 (Stand.of_body B)
    exact ⟨t, .threw (gr G a), a1, b1, b2, rfl, b3, b4, b5, b6⟩
section RN9
variable {l : Launch} {G : Gt} {M M1 : MI} {d d1 pc : Nat} {lv : List (Nat × Value)} {st rest As : List Value} {u u1 u' : Mem} {o : Outcome} {T : u_T} {N ci idx n b a : Nat}
/-- athrow where nothing catches -/
theorem rn_athrow (hxt : XT M.1 = some []) (hd : decode M.2.1 pc = .ok (.athrow, 1)) : Rn l G M d pc lv (rv (some a) :: st) u (.threw a) u := by
  refine ⟨Nat.le_refl _, fun p e R s m args below meth c H locs cells slots ls C hl hM hS hc hs => ?_⟩
  rw [Nat.sub_self, Nat.sub_self, Nat.add_zero, Nat.add_zero]
  intro T0 hT X
  have hx := C.xt _ hxt
  have hx0 : c.exceptionTable.toList = [] := List.map_eq_nil_iff.mp hx
  obtain ⟨h1, h2, h3, h4, h5⟩ := X.athrowLeaves C.1 (g := F0 m pc ls ((rv (some a) :: st).map (gv G))) rfl rfl rfl (fun x hx => by rw [hx0] at hx; cases hx) (a := gr G a) (rest := st.map (gv G)) rfl (by rw [C.2.1]; exact hd) C.2.2.2.2.1
  exact ⟨_, h1, h2, h3, by show MemAt G u T0.heap; rw [hT]; exact hM, hS.F hT, h4, locs, h5, hS.2.2⟩
/-- a call that throws: up to the note over the caller's frame -/
theorem callVT_core {p : Program} {e : Env} {R : Room} {s : State} {m : MethodId} {args : Array Value} {below : List Frame} {meth : Method} {c : Code} {H : Heap} {locs : List Loc} {cells slots : Nat} {ls : Array Slot}
    (C : Cx G M d p R s m args meth c) (hls : ls.size = M.2.2.1) (hM : MemAt G u H) (hS : va_S (gU G) s.heap H locs) (hc : cells + (mN u1 - mN u) ≤ R.cells) (hs : slots + (KT (mN u1) - KT (mN u)) ≤ R.slots)
    (hE : ExT l G M1 d1 (rv (some b) :: As) u a u1) (hd1 : d1 + 1 ≤ d) (ok : clsOK ci M1.1.cls T N) (hb : okc u b ci = true) (hco : Cond.code M1.1 M1.2.1 M1.2.2.1 M1.2.2.2 ∈ lw_g) (hi : Cond.initialized M1.1.cls ∈ lw_g) (hl : Cond.methodLink M.1.cls idx M1.1 ∈ lw_g) (hin : Cond.instanceMethod M1.1 ∈ lw_g) (hse : Cond.selects M1.1.cls M1.1 M1.1 ∈ lw_g)
    (hd : M1.1.cls ≠ "java/lang/invoke/MethodHandle" ∧ M1.1.cls ≠ "java/lang/invoke/VarHandle" ∧ (parseMethodDescriptor M1.1.desc).map (fun d => d.parameters.length) = some n) (hn : As.length = n) (hst : (rest.map fun v => v.category).sum ≤ 8) (hdg : decode M.2.1 pc = .ok (.invokevirtual idx, 3))
    {T0 : State} (hT : T0.heap = H) (X : Stand p l e R s m args below meth c T0 locs cells slots) :
    ∃ (U : State) (L : List Loc), Stand p l e R s m args below meth c U (locs ++ L) (cells + (mN u1 - mN u)) (slots + (KT (mN u1) - KT (mN u))) ∧ MemAt G u1 U.heap ∧ va_S (gU G) s.heap U.heap (locs ++ L) ∧
      ∀ target, Steps p.tables e below ((U.setTop (F0 m pc ls (rest.map (gv G)))).pushFrame (.throwing (gr G a))) target → Steps p.tables e below (T0.setTop (F0 m pc ls ((As.reverse ++ rv (some b) :: rest).map (gv G)))) target := by
  obtain ⟨hb1, hb2⟩ := okc_spec hb
  obtain ⟨cellB, q1, q2, q3, -⟩ := hM.obj hb1 hb2 ok.1
  have hcl := (C.wd.1 ci _ ok.2.1).2.1
  obtain ⟨mk, methM, hnamed, hmethM, hstM, habM⟩ := Cond.instanceMethod_spec (C.hts _ hin)
  obtain ⟨methM', cM, hmethM', hcM, -, hlM, -, -, -, hsigM⟩ := Cond.code_spec hnamed (C.hts _ hco)
  cases hmethM.symm.trans hmethM'
  obtain ⟨c2, r2, m2, w1, w2, w3, w4, kP, hkP, hkPi⟩ := Cond.selects_spec (C.hts _ hse)
  have hcls : s.vm.findClass M1.1.cls = some cellB.cls := by rw [q2]; exact hcl
  cases hcls.symm.trans w1
  cases (State.methodFound?_of_named hnamed ⟨hd.1, hd.2.1⟩).symm.trans w2
  cases hnamed.symm.trans w3
  have hselP : selectMethod e.platform s.vm cellB.cls mk = .method mk := by rw [Launch.admits_selectMethod X.admits]; exact w4
  have hlen : (As.map (gv G)).length = methM.sig.parameters.length := by
    have h2 := hd.2.2
    rw [hsigM] at h2
    rw [List.length_map, hn]
    exact (Option.some.inj h2).symm
  obtain ⟨vm₁, X₁, hstep₁⟩ := X.invokevirtual C.1 C.own (C.hts _ hl) hnamed hmethM hstM hkP hkPi ⟨hd.1, hd.2.1⟩ (a := gr G b) (cell := cellB) (by rw [hT]; exact q1)
    (fun z h => by rw [q3] at h; cases h) hselP hmethM habM hkP hkPi (g := F0 m pc ls ((As.reverse ++ rv (some b) :: rest).map (gv G))) rfl (argsL := As.map (gv G)) (rest := rest.map (gv G)) hlen (by rw [List.map_append, List.map_reverse, List.map_cons]; rfl) (by rw [C.2.1]; exact hdg)
  have hW1 : s.WarmedH vm₁ := X₁.warmed
  obtain ⟨g, hgg⟩ : ∃ g, g = F0 m pc ls (rest.map (gv G)) := ⟨_, rfl⟩
  have hgm : g.method = m := by rw [hgg]
  have hgs : g.locals.size = c.maxLocals := by rw [hgg, C.2.2.1]; exact hls
  have hgd : decode c.code g.pc = .ok (.invokevirtual idx, 3) := by rw [hgg, C.2.1]; exact hdg
  have hgW : 2 * g.monitorRoom + (g.stack.map fun v => v.category).sum ≤ 8 := by
    rw [hgg]
    exact lv_room (by rw [cat_gv]; exact hst)
  have hU : (T0.setVm vm₁).heap = H := hT
  have hP := exP_at (avs := rv (some b) :: As) C.wd hM hS (T0.setVm vm₁) hU hW1
  have hPc := exP_blind G (rv (some b) :: As) u _ _ g mk hP
  have hcw := fun w (hw : w ∈ mws M1) => pay_in C.hts (gi_g M1 hco) w hw ((rv (some b) :: As).map (gv G)).toArray (T0.setVm vm₁) hW1
  obtain ⟨kY, hkY, -⟩ := className_of_methodNamed (X₁.named hnamed)
  have hinitY : kY.init = .initialized := Cond.initialized_spec (findClass_of_methodNamed (X₁.named hnamed)) hkY (word_at hW1 (Or.inl (by first | rfl | simp [Cond.onTables, Cond.keeps, Cond.steady])) (C.hts _ hi) : (Cond.initialized M1.1.cls).before #[] (T0.setVm vm₁) = true)
  obtain ⟨methY, cY, hmY, hcY, -, hlY, -⟩ := Cond.code_spec (X₁.named hnamed) (hcw _ List.mem_cons_self)
  have h : At (T0.setVm vm₁) g.method c below := by rw [hgm]; exact X₁.here
  have hfr := C.fr
  have hlo := C.lo
  have hml := hE.2.1
  have happ : (headSpec (mws M1) (rmD d1 (mN u1 - mN u) (KT (mN u1) - KT (mN u)))).appliesLoose M1.1 e.platform ((T0.setVm vm₁).calling g mk ((rv (some b) :: As).map (gv G)).toArray) = true :=
    Spec.appliesLoose_calling (g := g) h hgd (X₁.named hnamed) hkY hinitY
      (X₁.room_calling (g := g) (R' := rmD d1 (mN u1 - mN u) (KT (mN u1) - KT (mN u))) hgs hmY hcY (by show d1 + 1 ≤ _; omega) (by rw [hlY]; show _ + 60 * d1 ≤ _; omega) hc hs) (atoms_intro hcw)
  obtain ⟨mid, hmid⟩ := h.above
  have hfr2 : ((T0.setVm vm₁).setTop g).frames = (.java g :: mid) ++ below := by rw [State.frames_setTop' g h.top, hmid]; rfl
  obtain ⟨o2, s₂, hsteps, -, hend, rfl, hMq, hFq, hWq, L, hsame, hLq⟩ := Steps.callFree hE.2.2 p X₁.admits X₁.cas X₁.clock (acts := []) hfr2 happ hPc trivial
  rw [State.frames_setTop' g h.top] at hend
  have hWarm : (T0.setVm vm₁).WarmedH s₂.vm := hWq
  obtain ⟨e2, r2, r3, r4, r5, r6⟩ := id hsame
  have e3 : s₂ = ({ ((T0.setVm vm₁).calling g mk ((rv (some b) :: As).map (gv G)).toArray).setFrames s₂.frames with heap := s₂.heap, slotsUsed := s₂.slotsUsed } : State).setVm s₂.vm := by
    have e4 := congrArg (fun z : State => z.setVm s₂.vm) e2
    exact e4
  obtain ⟨g₀, hg0⟩ := Option.isSome_iff_exists.mp h.top
  obtain ⟨r, hr⟩ := State.topJava?_eq_some.mp hg0
  have hr' : (({ (T0.setVm vm₁) with heap := s₂.heap, slotsUsed := s₂.slotsUsed } : State).setVm s₂.vm).frames = .java g₀ :: r := hr
  have hs₂ : s₂ = ((({ (T0.setVm vm₁) with heap := s₂.heap, slotsUsed := s₂.slotsUsed } : State).setVm s₂.vm).setTop g).pushFrame (.throwing (gr G a)) := by
    refine e3.trans ?_
    rw [hend, State.calling_eq h.top, State.setFrames_setFrames, State.pushFrame, State.frames_setTop _ hr', State.setTop_of_frames _ hr', State.setFrames_setFrames, hr]
    rfl
  have hsame2 : (T0.setVm vm₁).sameButNew ({ (T0.setVm vm₁) with heap := s₂.heap, slotsUsed := s₂.slotsUsed } : State) L (mN u1 - mN u) (KT (mN u1) - KT (mN u)) := by
    refine ⟨?_, r2, r3, r4, r5, r6⟩
    obtain ⟨t, ht, -⟩ := State.frames_cons hr
    show ({ (T0.setVm vm₁) with heap := s₂.heap, slotsUsed := s₂.slotsUsed } : State) = { (T0.setVm vm₁).setFrames (T0.setVm vm₁).frames with heap := s₂.heap, slotsUsed := s₂.slotsUsed }
    rw [State.setFrames_self ht]
  obtain ⟨hz, hk⟩ := hFq
  have hz' : H.size ≤ s₂.heap.size := by rw [← hT]; exact hz
  have hk' : ∀ q : Nat, q < H.size → ¬ gU G q → s₂.heap[q]? = H[q]? := fun q h1 h2 => by rw [← hT] at h1 ⊢; exact hk q h1 h2
  refine ⟨(({ (T0.setVm vm₁) with heap := s₂.heap, slotsUsed := s₂.slotsUsed } : State).setVm s₂.vm), L,
    ⟨X₁.admits, X₁.cas, X₁.clock, X₁.frames, X₁.room, X₁.hears, X₁.method, X₁.code, (X₁.here.setHeapUsed s₂.heap s₂.slotsUsed).setVm hWarm.alike, X₁.tail, State.WarmedH.trans X₁.warmed hWarm, X₁.limits, X₁.bytes, X₁.same.trans (hsame2.setVm s.vm)⟩,
    hMq, ⟨Nat.le_trans hS.1 hz', fun q h1 h2 => (hk' q (Nat.lt_of_lt_of_le h1 hS.1) h2).trans (hS.2.1 q h1 h2), fun q hq => ?_⟩, fun target ht => ?_⟩
  · rcases List.mem_append.mp hq with h | h
    · exact hS.2.2 q h
    · exact hLq q h
  · rw [← hgg, ← hs₂] at ht
    rw [hgg] at hsteps
    exact hstep₁ _ fun acts => by rw [doInvoke_state]; exact hsteps.trans ht
/-- the callee throws, and nothing here catches -/
theorem rn_callVT (hE : ExT l G M1 d1 (rv (some b) :: As) u a u1) (hd1 : d1 + 1 ≤ d) (hxt : XT M.1 = some []) (ok : clsOK ci M1.1.cls T N) (hb : okc u b ci = true) (hco : Cond.code M1.1 M1.2.1 M1.2.2.1 M1.2.2.2 ∈ lw_g) (hi : Cond.initialized M1.1.cls ∈ lw_g) (hl : Cond.methodLink M.1.cls idx M1.1 ∈ lw_g) (hin : Cond.instanceMethod M1.1 ∈ lw_g) (hse : Cond.selects M1.1.cls M1.1 M1.1 ∈ lw_g)
    (hd : M1.1.cls ≠ "java/lang/invoke/MethodHandle" ∧ M1.1.cls ≠ "java/lang/invoke/VarHandle" ∧ (parseMethodDescriptor M1.1.desc).map (fun d => d.parameters.length) = some n) (hn : As.length = n) (hst : (rest.map fun v => v.category).sum ≤ 8) (hdg : decode M.2.1 pc = .ok (.invokevirtual idx, 3)) (hq : st = As.reverse ++ rv (some b) :: rest) : Rn l G M d pc lv st u (.threw a) u1 := by
  subst hq
  refine ⟨hE.1, fun p e R s m args below meth c H locs cells slots ls C hl' hM hS hc hs => ?_⟩
  intro T0 hT X
  obtain ⟨U, L, X', hM', hS', hgo⟩ := callVT_core C hl'.1 hM hS hc hs hE hd1 ok hb hco hi hl hin hse hd hn hst hdg hT X
  have hx0 : c.exceptionTable.toList = [] := List.map_eq_nil_iff.mp (C.xt _ hxt)
  obtain ⟨h1, h2, h3, h4, h5⟩ := X'.leaveThrown (gr G a) (g := F0 m pc ls (rest.map (gv G))) rfl rfl rfl (fun x hx => by rw [hx0] at hx; cases hx) C.2.2.2.2.1
  exact ⟨_, hgo _ h1, h2, h3, hM', hS'.F rfl, h4, _, h5, hS'.2.2⟩
end RN9
