/-! the one handler: the class of its entry is linked here, cold or warm -/
theorem okX11c : clsOK 11 RX11 TX11 6 := ⟨by decide, rfl, igX11, tyX11_ok, nmX11⟩
theorem fh_link {Q : Handler → Pre} {E : CtlPost} {e : Env} {b : Bool} {acts : List Action} {s : State} {f : JFrame} {a : Addr} {x : ExceptionTableEntry} {t : List ExceptionTableEntry} {c : ClassId} {cell : Cell} (hx : covers x f.pc = true) (h0 : x.catchType ≠ 0)
    (hl : s.vm.ClassLinks e.platform f.method.cls x.catchType c) (hcell : s.heap[a]? = some cell) (hobj : ∀ k, cell.vm ≠ .statics k) (hk : ∃ k, s.vm.classes[cell.cls]? = some k) (hc : ∃ k, s.vm.classes[c]? = some k) (hfit : s.vm.assignable cell.cls c = true) :
    wp (findHandler.go f a (x :: t)) Q E e b acts s ↔ Q (.found x.handlerPc) b acts (s.setVm (s.vm.noted f.method.cls x.catchType (.cls c))) := by
  simp only [covers] at hx
  obtain ⟨ha, ht⟩ := (resolveClass_links e.toSetting hl).op (op := VmOp.resolveClass f.method.cls x.catchType) rfl
  have hal : s.vm.Alike (s.vm.noted f.method.cls x.catchType (.cls c)) := (Vm.Alike.refl s.vm).noted _ _ _
  obtain ⟨k1, hk1⟩ := hk
  obtain ⟨k2, hk2⟩ := hc
  obtain ⟨k3, hk3, -⟩ := hal.2.2 _ _ hk1
  obtain ⟨k4, hk4, -⟩ := hal.2.2 _ _ hk2
  have hf2 : (s.vm.noted f.method.cls x.catchType (.cls c)).assignable cell.cls c = true := by rw [hal.assignable]; exact hfit
  simp [findHandler.go, hx, h0, ha, ht, hcell, hobj, hk3, hk4, hf2, VmOp.dirties, VmOp.acts]
theorem st_catch {e : Env} {s : State} {a : Addr} {f : JFrame} {r : List Frame} {pc : Nat} {vm' : Vm} (hfind : ∀ (Q : Handler → Pre) (E : CtlPost) (b : Bool) (acts : List Action), wp (findHandler f a) Q E e b acts s ↔ Q (.found pc) b acts (s.setVm vm')) :
    (stepThrowing e s a (.java f :: r)).Is ((s.setVm vm').setFrames (.java { f with pc := pc, stack := [.ref a] } :: r)) [] := by
  simp only [stepThrowing, searchFrame, vmDo]
  generalize hr : Sem.go _ e false [] s = res
  obtain ⟨as, rfl, ha⟩ := Sem.eq_ok_of hr (a := Handler.found pc) (s' := s.setVm vm') (acts' := []) (by simp [hfind _ _ _ _])
  exact ⟨rfl, ha⟩
theorem sf_vm (u : State) (vm' : Vm) (F F2 : List Frame) : ((u.setFrames F).setVm vm').setFrames F2 = (u.setVm vm').setFrames F2 := by
  have h1 : (u.setFrames F).setVm vm' = (u.setVm vm').setFrames F := rfl
  rw [h1, State.setFrames_setFrames]
theorem steps_catch {tb : Tables} {e : Env} {s target : State} {g : JFrame} {c : Code} {below : List Frame} {a : Addr} (h : At s g.method c below) {pc : Nat} {vm' : Vm}
    (hfind : ∀ (Q : Handler → Pre) (E : CtlPost) (b : Bool) (acts : List Action), wp (findHandler g a) Q E e b acts ((s.setTop g).pushFrame (.throwing a)) ↔ Q (.found pc) b acts (((s.setTop g).pushFrame (.throwing a)).setVm vm'))
    (hrest : Steps tb e below ((s.setVm vm').setTop { g with pc := pc, stack := [.ref a] }) target) : Steps tb e below ((s.setTop g).pushFrame (.throwing a)) target := by
  obtain ⟨hgo, hw⟩ := h.throwing a
  refine Steps.head hgo hw ?_
  rw [stepThread_throwing (frames_entered h.top _), (st_catch (s := (s.setTop g).pushFrame (.throwing a)) hfind).1]
  obtain ⟨g₀, hg⟩ := Option.isSome_iff_exists.mp h.top
  obtain ⟨r, hr⟩ := State.topJava?_eq_some.mp hg
  have hr' : (s.setVm vm').frames = .java g₀ :: r := hr
  rw [State.setTop_of_frames _ hr'] at hrest
  rw [hr, List.tail_cons, State.pushFrame, sf_vm, State.setTop_of_frames _ hr, sf_vm]
  exact hrest
section RN10
variable {l : Launch} {G : Gt} {M M1 : MI} {d d1 pc : Nat} {lv : List (Nat × Value)} {st rest As : List Value} {u u1 u' : Mem} {o : Outcome} {T : u_T} {N ci idx n b a s0 e0 h0 t0 : Nat}
theorem rn_callVC (hE : ExT l G M1 d1 (rv (some b) :: As) u a u1) (hd1 : d1 + 1 ≤ d) (hxt : XT M.1 = some [(s0, e0, h0, t0)]) (hcov : s0 ≤ pc ∧ pc < e0) (ht0 : t0 ≠ 0) (hlk : Cond.classLink M.1.cls t0 RX11 ∈ lw_g) (ha : okc u1 a 11 = true) (ok : clsOK ci M1.1.cls T N) (hb : okc u b ci = true) (hco : Cond.code M1.1 M1.2.1 M1.2.2.1 M1.2.2.2 ∈ lw_g) (hi : Cond.initialized M1.1.cls ∈ lw_g) (hl : Cond.methodLink M.1.cls idx M1.1 ∈ lw_g) (hin : Cond.instanceMethod M1.1 ∈ lw_g) (hse : Cond.selects M1.1.cls M1.1 M1.1 ∈ lw_g)
    (hd : M1.1.cls ≠ "java/lang/invoke/MethodHandle" ∧ M1.1.cls ≠ "java/lang/invoke/VarHandle" ∧ (parseMethodDescriptor M1.1.desc).map (fun d => d.parameters.length) = some n) (hn : As.length = n) (hst : (rest.map fun v => v.category).sum ≤ 8) (hdg : decode M.2.1 pc = .ok (.invokevirtual idx, 3)) (hq : st = As.reverse ++ rv (some b) :: rest)
    (k : Rn l G M d h0 lv [rv (some a)] u1 o u') : Rn l G M d pc lv st u o u' := by
  subst hq
  have k1 := k.1
  have k0 := hE.1
  have hm0 : KT (mN u) ≤ KT (mN u1) := KT_mono k0
  have hm1 : KT (mN u1) ≤ KT (mN u') := KT_mono k1
  refine ⟨by omega, fun p e R s m args below meth c H locs cells slots ls C hl' hM hS hc hs => ?_⟩
  intro T0 hT X
  obtain ⟨U, L, X', hM', hS', hgo⟩ := callVT_core C hl'.1 hM hS (by omega) (by omega) hE hd1 ok hb hco hi hl hin hse hd hn hst hdg hT X
  obtain ⟨x, hx1, hx2⟩ : ∃ x, c.exceptionTable.toList = [x] ∧ (x.startPc, x.endPc, x.handlerPc, x.catchType) = (s0, e0, h0, t0) := by
    have hx := C.xt _ hxt
    cases ht : c.exceptionTable.toList with
    | nil => rw [ht] at hx; cases hx
    | cons x r =>
      rw [ht, List.map_cons] at hx
      obtain ⟨h1, h2⟩ := List.cons.inj hx
      exact ⟨x, by rw [List.map_eq_nil_iff.mp h2], h1⟩
  cases hx2
  have hcv : covers x pc = true := by simp [covers, hcov.1, hcov.2]
  obtain ⟨ha1, ha2⟩ := okc_spec ha
  obtain ⟨cell, q1, q2, q3, -⟩ := hM'.obj ha1 ha2 (by decide)
  have hcls := (C.wd.1 11 _ okX11c.2.1).2
  have hpl : e.platform.magicAccessors = ({} : Platform).magicAccessors := by rw [X'.admits.platform]
  obtain ⟨c9, hc9, hcl⟩ := Cond.classLink_spec C.own (C.hts _ hlk) e.platform hpl
  cases hcls.1.symm.trans hc9
  obtain ⟨dk, _, _, kt, hdk, _, _, _, _, hkt, _, hopen⟩ := hcl.here
  have hcl0 := X'.warmed.classLinks hcl
  have hW9 : s.WarmedH (U.vm.noted m.cls x.catchType (.cls (gC G 11))) := X'.warmed.noted hdk hopen (State.rightAt_cls hcl)
  have hal := X'.warmed.alike
  obtain ⟨kt9, hkt9, -⟩ := hal.2.2 _ _ hkt
  have hfit : U.vm.assignable cell.cls (gC G 11) = true := by rw [q2, hal.assignable]; exact va_assign hcls
  have k3 := k.2 p e R s m args below meth c U.heap (locs ++ L) (cells + (mN u1 - mN u)) (slots + (KT (mN u1) - KT (mN u))) ls C hl' hM' hS' (by omega) (by omega)
  have e1 : cells + (mN u1 - mN u) + (mN u' - mN u1) = cells + (mN u' - mN u) := by omega
  have e2 : slots + (KT (mN u1) - KT (mN u)) + (KT (mN u') - KT (mN u1)) = slots + (KT (mN u') - KT (mN u)) := by omega
  rw [e1, e2] at k3
  obtain ⟨t, a1, b1⟩ := k3 (U.setVm (U.vm.noted m.cls x.catchType (.cls (gC G 11)))) rfl (X'.noted hW9)
  refine ⟨t, hgo t (steps_catch (g := F0 m pc ls (rest.map (gv G))) X'.here (fun Q E b2 acts => ?_) a1), b1⟩
  rw [Jvm.W.findHandler_eq (meth := meth) (code := c) X'.method' X'.code, hx1]
  exact fh_link (s := (U.setTop (F0 m pc ls (rest.map (gv G)))).pushFrame (.throwing (gr G a))) hcv ht0 hcl0 q1 (fun k h => by rw [q3] at h; cases h) (Vm.classAt_of_assignable hfit ⟨kt9, hkt9⟩) ⟨kt9, hkt9⟩ hfit
end RN10
