/-! calls -/
theorem cat_gv (G : Gt) (rest : List Value) : ((rest.map (gv G)).map fun v => v.category) = rest.map fun v => v.category := by
  rw [List.map_map]
  apply List.map_congr_left
  intro v _
  exact gv_cat G v
theorem tl_gv (G : Gt) (v : Option Value) (rest : List Value) : (v.toList ++ rest).map (gv G) = (v.map (gv G)).toList ++ rest.map (gv G) := by cases v <;> rfl
theorem run_ret {p : Program} {l : Launch} {e : Env} {R : Room} {s : State} {m : MethodId} {args : Array Value} {below : List Frame} {meth : Method} {c : Code} {H : Heap} {locs : List Loc} {cells slots mc ms pc : Nat} {ls : Array Slot} {st0 rest : List Value} {a : Array Value} {G : Gt} {u1 : Mem} {v : Option Value} {Q : State → Prop}
    (hr : va_Run p l e R s m args below meth c H locs cells slots mc ms (F0 m pc ls st0) rest (Qc G (.returned v) u1 a) (gU G)) (hS : va_S (gU G) s.heap H locs)
    (kk : ∀ (H1 : Heap) (locs1 : List Loc), MemAt G u1 H1 → va_S (gU G) s.heap H1 locs1 → W p l e R s m args below meth c H1 locs1 (cells + mc) (slots + ms) Q (F0 m (pc + 3) ls ((v.map (gv G)).toList ++ rest))) : W p l e R s m args below meth c H locs cells slots Q (F0 m pc ls st0) := by
  intro T hT X
  obtain ⟨v', st₀, t, T', L, h0, X', hL, e1, e2, ⟨hv, hM, hz, hk⟩, st⟩ := hr T hT X
  cases hv
  rw [h0] at hz hk
  obtain ⟨t2, a1, b1⟩ := kk T'.heap (locs ++ L) (by rw [e1]; exact hM)
    ⟨Nat.le_trans hS.1 (by rw [e1]; exact hz), fun q h1 h2 => by rw [e1, hk q (Nat.lt_of_lt_of_le h1 hS.1) h2]; exact hS.2.1 q h1 h2, fun q hq => by
      rcases List.mem_append.mp hq with h | h
      · exact hS.2.2 q h
      · exact hL q h⟩ T' rfl X'
  exact ⟨t2, st t2 a1, b1⟩
theorem callB_g {R : Room} {s : State} {args : Array Value} {own : String} {index d d1 mc ms n : Nat} {M1 : MI} (hts : ∀ w ∈ lw_g, w.before args s = true) (hc : Cond.code M1.1 M1.2.1 M1.2.2.1 M1.2.2.2 ∈ lw_g) (hi : Cond.initialized M1.1.cls ∈ lw_g) (hl : Cond.methodLink own index M1.1 ∈ lw_g)
    (hd : M1.1.cls ≠ "java/lang/invoke/MethodHandle" ∧ M1.1.cls ≠ "java/lang/invoke/VarHandle" ∧ (parseMethodDescriptor M1.1.desc).map (fun d => d.parameters.length) = some n) (hm : M1.2.2.1 ≤ 41) (hfr : d1 + 1 ≤ d) (hR : d ≤ R.frames) (hL : 60 * d ≤ R.locals) : CallB R s args own index M1.1 M1.2.1 M1.2.2.1 M1.2.2.2 (mws M1) (rmD d1 mc ms) mc ms n :=
  callB_of n hts (gi_g M1 hc) rfl rfl rfl (hts _ hi) (hts _ hl) hd ⟨by show d1 + 1 ≤ _; omega, by show 8 + (M1.2.2.1 + 11) + 60 * d1 ≤ _; omega⟩
theorem callN_g {R : Room} {s : State} {args : Array Value} {own host : String} {index d d1 mc ms n : Nat} {M1 : MI} (hts : ∀ w ∈ lw_g, w.before args s = true) (hN : Nx s) (hc : Cond.code M1.1 M1.2.1 M1.2.2.1 M1.2.2.2 ∈ lw_g) (hi : Cond.initialized M1.1.cls ∈ lw_g) (hl : (own, index, M1.1, host) ∈ nestL)
    (hd : M1.1.cls ≠ "java/lang/invoke/MethodHandle" ∧ M1.1.cls ≠ "java/lang/invoke/VarHandle" ∧ (parseMethodDescriptor M1.1.desc).map (fun d => d.parameters.length) = some n) (hm : M1.2.2.1 ≤ 41) (hfr : d1 + 1 ≤ d) (hR : d ≤ R.frames) (hL : 60 * d ≤ R.locals) : va_CN R s args own index M1.1 host M1.2.1 M1.2.2.1 M1.2.2.2 (mws M1) (rmD d1 mc ms) mc ms n :=
  va_cnB n hts (gi_g M1 hc) rfl rfl rfl (hN.1 _ hl) (hts _ hi) hd ⟨by show d1 + 1 ≤ _; omega, by show 8 + (M1.2.2.1 + 11) + 60 * d1 ≤ _; omega⟩
section RN6
variable {l : Launch} {G : Gt} {M M1 : MI} {d d1 pc : Nat} {lv lv' : List (Nat × Value)} {st rest As : List Value} {u u1 u' : Mem} {o : Outcome} {v : Option Value} {T : u_T} {N ci idx n b : Nat} {host : String}
theorem Rn.cl {avs : List Value} (hE : Ex l G M1 d1 avs u (.returned v) u1) (k : Rn l G M d (pc + 3) lv (v.toList ++ rest) u1 o u')
    (h : ∀ (p : Program) (e : Env) (R : Room) (s : State) (m : MethodId) (args : Array Value) (below : List Frame) (meth : Method) (c : Code) (H : Heap) (locs : List Loc) (cells slots : Nat) (ls : Array Slot), Cx G M d p R s m args meth c → lv_has ls M.2.2.1 (lv.map (gq G)) → MemAt G u H → va_S (gU G) s.heap H locs → (cells + (mN u1 - mN u) ≤ R.cells ∧ slots + (KT (mN u1) - KT (mN u)) ≤ R.slots) →
      va_Run p l e R s m args below meth c H locs cells slots (mN u1 - mN u) (KT (mN u1) - KT (mN u)) (F0 m pc ls (st.map (gv G))) (rest.map (gv G)) (Qc G (.returned v) u1 ((avs.map (gv G)).toArray)) (gU G)) : Rn l G M d pc lv st u o u' := by
  have h1 := k.1
  have h0 := hE.1
  have hm0 : KT (mN u) ≤ KT (mN u1) := KT_mono h0
  have hm1 : KT (mN u1) ≤ KT (mN u') := KT_mono h1
  refine ⟨by omega, fun p e R s m args below meth c H locs cells slots ls C hl hM hS hc hs => ?_⟩
  refine run_ret (h p e R s m args below meth c H locs cells slots ls C hl hM hS ⟨by omega, by omega⟩) hS (fun H1 locs1 hM1 hS1 => ?_)
  have k3 := k.2 p e R s m args below meth c H1 locs1 (cells + (mN u1 - mN u)) (slots + (KT (mN u1) - KT (mN u))) ls C hl hM1 hS1 (by omega) (by omega)
  have e1 : cells + (mN u1 - mN u) + (mN u' - mN u1) = cells + (mN u' - mN u) := by omega
  have e2 : slots + (KT (mN u1) - KT (mN u)) + (KT (mN u') - KT (mN u1)) = slots + (KT (mN u') - KT (mN u)) := by omega
  rw [e1, e2, tl_gv] at k3
  exact k3
theorem exP_at {avs : List Value} {s : State} {H : Heap} {locs : List Loc} (hW : Wd G s) (hM : MemAt G u H) (hS : va_S (gU G) s.heap H locs) : ∀ U : State, U.heap = H → s.WarmedH U.vm → exP G avs u ((avs.map (gv G)).toArray) U :=
  fun U hU hw => ⟨rfl, hW.moved hw (by rw [hU, hM.1]; exact Nat.le_add_right _ _) (fun a h1 h2 => by rw [hU]; exact hS.2.1 a h1 h2), by rw [hU]; exact hM⟩
theorem rn_callS (hE : Ex l G M1 d1 As u (.returned v) u1) (hd1 : d1 + 1 ≤ d) (hc : Cond.code M1.1 M1.2.1 M1.2.2.1 M1.2.2.2 ∈ lw_g) (hi : Cond.initialized M1.1.cls ∈ lw_g) (hl : Cond.methodLink M.1.cls idx M1.1 ∈ lw_g) (hs : Cond.static M1.1 ∈ lw_g)
    (hd : M1.1.cls ≠ "java/lang/invoke/MethodHandle" ∧ M1.1.cls ≠ "java/lang/invoke/VarHandle" ∧ (parseMethodDescriptor M1.1.desc).map (fun d => d.parameters.length) = some n) (hn : As.length = n) (hst : (rest.map fun v => v.category).sum ≤ 8) (hdg : decode M.2.1 pc = .ok (.invokestatic idx, 3)) (hq : st = As.reverse ++ rest)
    (k : Rn l G M d (pc + 3) lv (v.toList ++ rest) u1 o u') : Rn l G M d pc lv st u o u' := by
  subst hq
  refine Rn.cl hE k fun p e R s m args below meth c H locs cells slots ls C hl' hM hS hf => ?_
  exact va_runS (As := As.map (gv G)) ⟨C.1, C.2.1, C.2.2.1, C.own, C.hts⟩ hE.2.2 ⟨callB_g C.hts hc hi hl hd hE.2.1 hd1 C.fr C.lo, C.hts _ hs⟩ ⟨exP_blind G As u, exP_at C.wd hM hS⟩ rfl (by rw [List.length_map]; exact hn) hl'.1 (by rw [List.map_append, List.map_reverse]) (lv_room (by rw [cat_gv]; exact hst)) hdg hf
theorem rn_callSN (hE : Ex l G M1 d1 As u (.returned v) u1) (hd1 : d1 + 1 ≤ d) (hc : Cond.code M1.1 M1.2.1 M1.2.2.1 M1.2.2.2 ∈ lw_g) (hi : Cond.initialized M1.1.cls ∈ lw_g) (hl : (M.1.cls, idx, M1.1, host) ∈ nestL) (hs : Cond.static M1.1 ∈ lw_g)
    (hd : M1.1.cls ≠ "java/lang/invoke/MethodHandle" ∧ M1.1.cls ≠ "java/lang/invoke/VarHandle" ∧ (parseMethodDescriptor M1.1.desc).map (fun d => d.parameters.length) = some n) (hn : As.length = n) (hst : (rest.map fun v => v.category).sum ≤ 8) (hdg : decode M.2.1 pc = .ok (.invokestatic idx, 3)) (hq : st = As.reverse ++ rest)
    (k : Rn l G M d (pc + 3) lv (v.toList ++ rest) u1 o u') : Rn l G M d pc lv st u o u' := by
  subst hq
  refine Rn.cl hE k fun p e R s m args below meth c H locs cells slots ls C hl' hM hS hf => ?_
  exact va_runSN (As := As.map (gv G)) (host := host) ⟨C.1, C.2.1, C.2.2.1, C.own, C.hts⟩ hE.2.2 ⟨callN_g C.hts C.wd.2.2.1.2 hc hi hl hd hE.2.1 hd1 C.fr C.lo, C.hts _ hs, trivial⟩ ⟨exP_blind G As u, exP_at C.wd hM hS⟩ rfl (by rw [List.length_map]; exact hn) hl'.1 (by rw [List.map_append, List.map_reverse]) (lv_room (by rw [cat_gv]; exact hst)) hdg hf
theorem rn_callI (hE : Ex l G M1 d1 (rv (some b) :: As) u (.returned none) u1) (hd1 : d1 + 1 ≤ d) (hret : M1.2.2.2 = none) (hc : Cond.code M1.1 M1.2.1 M1.2.2.1 M1.2.2.2 ∈ lw_g) (hi : Cond.initialized M1.1.cls ∈ lw_g) (hl : Cond.methodLink M.1.cls idx M1.1 ∈ lw_g) (hs : Cond.instanceMethod M1.1 ∈ lw_g) (hnm : M1.1.name = "<init>")
    (hd : M1.1.cls ≠ "java/lang/invoke/MethodHandle" ∧ M1.1.cls ≠ "java/lang/invoke/VarHandle" ∧ (parseMethodDescriptor M1.1.desc).map (fun d => d.parameters.length) = some n) (hn : As.length = n) (hst : (rest.map fun v => v.category).sum ≤ 8) (hdg : decode M.2.1 pc = .ok (.invokespecial idx, 3)) (hq : st = As.reverse ++ rv (some b) :: rest)
    (k : Rn l G M d (pc + 3) lv rest u1 o u') : Rn l G M d pc lv st u o u' := by
  subst hq
  refine Rn.cl hE k fun p e R s m args below meth c H locs cells slots ls C hl' hM hS hf => ?_
  have hB := callB_g (mc := mN u1 - mN u) (ms := KT (mN u1) - KT (mN u)) C.hts hc hi hl hd hE.2.1 hd1 C.fr C.lo
  rw [hret] at hB
  exact va_runI (As := As.map (gv G)) ⟨C.1, C.2.1, C.2.2.1, C.own, C.hts⟩ hE.2.2 ⟨hB, hnm, C.hts _ hs⟩ ⟨exP_blind G _ u, exP_at C.wd hM hS⟩ rfl (by rw [List.length_map]; exact hn) hl'.1 (by rw [List.map_append, List.map_reverse, List.map_cons]; rfl) (lv_room (by rw [cat_gv]; exact hst)) hdg hf
theorem rn_callIN (hE : Ex l G M1 d1 (rv (some b) :: As) u (.returned none) u1) (hd1 : d1 + 1 ≤ d) (hret : M1.2.2.2 = none) (hc : Cond.code M1.1 M1.2.1 M1.2.2.1 M1.2.2.2 ∈ lw_g) (hi : Cond.initialized M1.1.cls ∈ lw_g) (hl : (M.1.cls, idx, M1.1, host) ∈ nestL) (hs : Cond.instanceMethod M1.1 ∈ lw_g) (hnm : M1.1.name = "<init>")
    (hd : M1.1.cls ≠ "java/lang/invoke/MethodHandle" ∧ M1.1.cls ≠ "java/lang/invoke/VarHandle" ∧ (parseMethodDescriptor M1.1.desc).map (fun d => d.parameters.length) = some n) (hn : As.length = n) (hst : (rest.map fun v => v.category).sum ≤ 8) (hdg : decode M.2.1 pc = .ok (.invokespecial idx, 3)) (hq : st = As.reverse ++ rv (some b) :: rest)
    (k : Rn l G M d (pc + 3) lv rest u1 o u') : Rn l G M d pc lv st u o u' := by
  subst hq
  refine Rn.cl hE k fun p e R s m args below meth c H locs cells slots ls C hl' hM hS hf => ?_
  have hB := callN_g (mc := mN u1 - mN u) (ms := KT (mN u1) - KT (mN u)) C.hts C.wd.2.2.1.2 hc hi hl hd hE.2.1 hd1 C.fr C.lo
  rw [hret] at hB
  exact va_runIN (As := As.map (gv G)) (host := host) ⟨C.1, C.2.1, C.2.2.1, C.own, C.hts⟩ hE.2.2 ⟨hB, hnm, C.hts _ hs⟩ ⟨exP_blind G _ u, exP_at C.wd hM hS⟩ rfl (by rw [List.length_map]; exact hn) hl'.1 (by rw [List.map_append, List.map_reverse, List.map_cons]; rfl) (lv_room (by rw [cat_gv]; exact hst)) hdg hf
theorem rn_callV (hE : Ex l G M1 d1 (rv (some b) :: As) u (.returned v) u1) (hd1 : d1 + 1 ≤ d) (ok : clsOK ci M1.1.cls T N) (hb : okc u b ci = true) (hc : Cond.code M1.1 M1.2.1 M1.2.2.1 M1.2.2.2 ∈ lw_g) (hi : Cond.initialized M1.1.cls ∈ lw_g) (hl : Cond.methodLink M.1.cls idx M1.1 ∈ lw_g) (hs : Cond.instanceMethod M1.1 ∈ lw_g) (hse : Cond.selects M1.1.cls M1.1 M1.1 ∈ lw_g)
    (hd : M1.1.cls ≠ "java/lang/invoke/MethodHandle" ∧ M1.1.cls ≠ "java/lang/invoke/VarHandle" ∧ (parseMethodDescriptor M1.1.desc).map (fun d => d.parameters.length) = some n) (hn : As.length = n) (hst : (rest.map fun v => v.category).sum ≤ 8) (hdg : decode M.2.1 pc = .ok (.invokevirtual idx, 3)) (hq : st = As.reverse ++ rv (some b) :: rest)
    (k : Rn l G M d (pc + 3) lv (v.toList ++ rest) u1 o u') : Rn l G M d pc lv st u o u' := by
  subst hq
  refine Rn.cl hE k fun p e R s m args below meth c H locs cells slots ls C hl' hM hS hf => ?_
  obtain ⟨hb1, hb2⟩ := okc_spec hb
  obtain ⟨cell, q1, q2, q3, -⟩ := hM.obj hb1 hb2 ok.1
  have hcl := (C.wd.1 ci _ ok.2.1).2.1
  exact va_runV (As := As.map (gv G)) (C := M1.1.cls) ⟨C.1, C.2.1, C.2.2.1, C.own, C.hts⟩ hE.2.2 ⟨callB_g C.hts hc hi hl hd hE.2.1 hd1 C.fr C.lo, C.hts _ hs, C.hts _ hse⟩ ⟨exP_blind G _ u, ⟨cell, q1, by rw [q3]; rfl, by rw [q2]; exact hcl⟩, exP_at C.wd hM hS⟩ rfl (by rw [List.length_map]; exact hn) hl'.1 (by rw [List.map_append, List.map_reverse, List.map_cons]; rfl) (lv_room (by rw [cat_gv]; exact hst)) hdg hf
/-- Object's own constructor -/
theorem rn_objInit (hd0 : 1 ≤ d) (hl : Cond.methodLink M.1.cls idx objectInit ∈ lw_g) (hs : Cond.instanceMethod objectInit ∈ lw_g) (hc : Cond.code objectInit ⟨#[0xb1]⟩ 1 none ∈ lw_g) (hst : (rest.map fun v => v.category).sum ≤ 8) (hdg : decode M.2.1 pc = .ok (.invokespecial idx, 3)) (k : Rn l G M d (pc + 3) lv rest u o u') : Rn l G M d pc lv (rv (some b) :: rest) u o u' :=
  Rn.same k fun p e R s m args below meth c H locs cells slots ls Q C hl' hM hS k => by
    have h1 := lv_room (m := m) (pc := pc) (ls := ls) (rest := (rv (some b) :: rest).map (gv G)) (st := rest.map (gv G)) (by rw [cat_gv]; exact hst)
    have hf := C.fr
    have ho := C.lo
    exact W.objInit C.1 C.2.1 C.own (C.hts _ hl) (C.hts _ hs) (C.hts _ hc) rfl (by rw [C.2.2.1]; exact hl'.1) rfl hdg (by omega) (by omega) (k ls hl')
end RN6
