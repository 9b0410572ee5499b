/-! THE JUDGEMENT: from this place of a method, with these locals, this stack and this memory, the method comes to its end with this outcome and this memory -/
abbrev MI : Type := MethodName × ByteArray × Nat × Option FieldType
def gU (G : Gt) : Nat → Prop := fun q => gB G ≤ q
/-- a static of the JDK's of which nothing is said but that it is null or a reference -/
def exs (G : Gt) (k : Nat) : Option Nat := if gV G k = 0 then none else some (1000000 + (60 + k))
/-- a literal: the String at a, its bytes at v, not among our cells -/
def StrB (a v i : Nat) (A : Nat → Prop) (U : State) (H : Heap) : Prop :=
  va_O "java/lang/String" a A U H ∧ va_OF "java/lang/String" "coder" "B" (.int 0) a A U H ∧ va_OF "java/lang/String" "value" "[B" (.ref v) a A U H ∧ va_T .byte v (stL.getD i 0) (fun j => .int ((stB.getD i []).getD j 0)) A U H
def StrA (a v i : Nat) (U : State) : Prop := StrB a v i (fun q => U.heap.size ≤ q) U U.heap
theorem StrB.moved {a v i : Nat} {A : Nat → Prop} {u U : State} {H : Heap} (hvm : u.vm.Alike U.vm) (h : StrB a v i A u H) : StrB a v i A U H := ⟨va_O.moved hvm h.1, va_OF.moved hvm h.2.1, va_OF.moved hvm h.2.2.1, va_T.moved hvm h.2.2.2⟩
theorem StrB.kept {a v i : Nat} {A : Nat → Prop} {U : State} {H H1 : Heap} (h : StrB a v i A U H) (hq : ∀ a : Nat, a < H.size → ¬ A a → H1[a]? = H[a]?) : StrB a v i A U H1 := ⟨h.1.kept hq, h.2.1.kept hq, h.2.2.1.kept hq, h.2.2.2.kept hq⟩
/-- what lies outside: strings, statics, the script -/
def Xt (G : Gt) (U : State) : Prop :=
  (∀ i, i < 10 → StrB (gX G i) (gX G (100 + i)) i (gU G) U U.heap) ∧ (∀ i, i < 10 → vk_R "ForeBook$RuleReader" (stR.getD i 0) (stT.getD i "") (gX G i) U ∧ vk_R "ForeBookModel" (stM.getD i 0) (stT.getD i "") (gX G i) U) ∧
  va_Z "java/lang/String" "COMPACT_STRINGS" "Z" (.int 1) (gU G) U U.heap ∧ va_Z "jdk/internal/util/Preconditions" "SIOOBE_FORMATTER" "Ljava/util/function/BiFunction;" (gv G (rv (exs G 0))) (gU G) U U.heap ∧
  va_Z "java/lang/Throwable" "UNASSIGNED_STACK" "[Ljava/lang/StackTraceElement;" (gv G (rv (exs G 1))) (gU G) U U.heap ∧ va_Z "java/lang/Throwable" "SUPPRESSED_SENTINEL" "Ljava/util/List;" (gv G (rv (exs G 2))) (gU G) U U.heap ∧
  va_X (gX G 50) (gLn G) (gXs G) U U.heap ∧ gX G 50 < gB G
def Nx (U : State) : Prop := (∀ q ∈ nestL, va_Nw (.methodLinkNest q.1 q.2.1 q.2.2.1 q.2.2.2) U) ∧ va_AO "ForeBook$Question" U ∧ va_AO "ForeBook$Guess" U
def Wd (G : Gt) (U : State) : Prop :=
  (∀ (ci : Nat) (q : vw_C), vwCl[ci]? = some q → u_Kn U q.1 q.2.1 q.2.2 (gC G ci) (gI G ci)) ∧ (∀ c : Nat, 20 ≤ c → c ≤ 25 → ArrOfT U (gAc G c) (aty c) ∧ va_RA U (gAc G c) (aty c)) ∧ (Xt G U ∧ Nx U) ∧ gB G ≤ U.heap.size
def Cx (G : Gt) (M : MI) (d : Nat) (p : Program) (R : Room) (s : State) (m : MethodId) (args : Array Value) (meth : Method) (c : Code) : Prop :=
  p.tables.exec = Jvm.exec ∧ c.code = M.2.1 ∧ c.maxLocals = M.2.2.1 ∧ meth.sig.returnType = M.2.2.2 ∧ meth.locks = false ∧ (M.1.name = "<init>" → meth.name = M.1.name) ∧ s.vm.findClass M.1.cls = some m.cls ∧ (∀ w ∈ lw_g, w.before args s = true) ∧ Wd G s ∧ d ≤ R.frames ∧ 60 * d ≤ R.locals ∧ ∀ hh, XT M.1 = some hh → c.exceptionTable.toList.map (fun h => (h.startPc, h.endPc, h.handlerPc, h.catchType)) = hh
def gO (G : Gt) (o : Outcome) : Outcome := match o with
  | .returned v => .returned (v.map (gv G))
  | .threw a => .threw (gr G a)
def Qc (G : Gt) (o : Outcome) (u' : Mem) : Array Value → State → Outcome → State → Prop := fun _ st oc t => oc = gO G o ∧ MemAt G u' t.heap ∧ va_F (gU G) st t
/-- what holds where a method has thrown -/
def MQT (G : Gt) (a : Nat) (u' : Mem) (below : List Frame) (s : State) (cells slots : Nat) : State → Prop := fun t =>
  t.status = .running ∧ Ended t below (.threw (gr G a)) ∧ MemAt G u' t.heap ∧ va_F (gU G) s t ∧ s.WarmedH t.vm ∧ ∃ L, s.sameButNew ({ t with vm := s.vm } : State) L cells slots ∧ ∀ q ∈ L, gU G q.base
def MZ (G : Gt) (o : Outcome) (u' : Mem) (below : List Frame) (args : Array Value) (s : State) (cells slots : Nat) : State → Prop := match o with
  | .returned v => MQ below (Qc G (.returned v) u') args s cells slots (gU G)
  | .threw a => MQT G a u' below s cells slots
def Rn (l : Launch) (G : Gt) (M : MI) (d pc : Nat) (lv : List (Nat × Value)) (st : List Value) (u : Mem) (o : Outcome) (u' : Mem) : Prop :=
  mN u ≤ mN u' ∧ ∀ (p : Program) (e : Env) (R : Room) (s : State) (m : MethodId) (args : Array Value) (below : List Frame) (meth : Method) (c : Code) (H : Heap) (locs : List Loc) (cells slots : Nat) (ls : Array Slot),
    Cx G M d p R s m args meth c → lv_has ls M.2.2.1 (lv.map (gq G)) → MemAt G u H → va_S (gU G) s.heap H locs → cells + (mN u' - mN u) ≤ R.cells → slots + (KT (mN u') - KT (mN u)) ≤ R.slots →
    W p l e R s m args below meth c H locs cells slots (MZ G o u' below args s (cells + (mN u' - mN u)) (slots + (KT (mN u') - KT (mN u)))) (F0 m pc ls (st.map (gv G)))
theorem KT_mono {a b : Nat} (h : a ≤ b) : KT a ≤ KT b := by
  induction b with
  | zero => rw [Nat.le_zero.mp h]; exact Nat.le_refl _
  | succ n ih =>
    by_cases hn : a = n + 1
    · subst hn; exact Nat.le_refl _
    · exact Nat.le_trans (ih (by omega)) (by rw [KT]; omega)
section RN
variable {l : Launch} {G : Gt} {M : MI} {d pc : Nat} {lv lv' : List (Nat × Value)} {st : List Value} {u u' : Mem} {o : Outcome}
theorem lq_at {ls : Array Slot} {nL k i : Nat} {v : Value} (h : lv_has ls nL (lv.map (gq G))) (hk : lv[k]? = some (i, v)) : ls[i]? = some (.val (gv G v)) := lv_at h k (by rw [List.getElem?_map, hk]; rfl)
/-- rows whose next frame is the same memory -/
theorem Rn.same {pc2 : Nat} {lv2 : List (Nat × Value)} {st2 : List Value} (k : Rn l G M d pc2 lv2 st2 u o u')
    (h : ∀ (p : Program) (e : Env) (R : Room) (s : State) (m : MethodId) (args : Array Value) (below : List Frame) (meth : Method) (c : Code) (H : Heap) (locs : List Loc) (cells slots : Nat) (ls : Array Slot) (Q : State → Prop), Cx G M d p R s m args meth c → lv_has ls M.2.2.1 (lv.map (gq G)) → MemAt G u H → va_S (gU G) s.heap H locs →
      (∀ ls2 : Array Slot, lv_has ls2 M.2.2.1 (lv2.map (gq G)) → W p l e R s m args below meth c H locs cells slots Q (F0 m pc2 ls2 (st2.map (gv G)))) → W p l e R s m args below meth c H locs cells slots Q (F0 m pc ls (st.map (gv G)))) : Rn l G M d pc lv st u o u' :=
  ⟨k.1, fun p e R s m args below meth c H locs cells slots ls C hl hM hS hc hs => h p e R s m args below meth c H locs cells slots ls _ C hl hM hS (fun ls2 hl2 => k.2 p e R s m args below meth c H locs cells slots ls2 C hl2 hM hS hc hs)⟩
theorem rn_iconst {n : Int} {v : Int32} (hd : decode M.2.1 pc = .ok (.iconst n, 1)) (hv : Int32.ofInt n = v) (k : Rn l G M d (pc + 1) lv (.int v :: st) u o u') : Rn l G M d pc lv st u o u' :=
  Rn.same k fun _ _ _ _ _ _ _ _ _ _ _ _ _ ls _ C hl _ _ k => lv_iconst C.1 C.2.1 hd hv (k ls hl)
theorem rn_bipush {n : Int} {v : Int32} (hd : decode M.2.1 pc = .ok (.bipush n, 2)) (hv : (Int8.ofInt n).toInt32 = v) (k : Rn l G M d (pc + 2) lv (.int v :: st) u o u') : Rn l G M d pc lv st u o u' :=
  Rn.same k fun _ _ _ _ _ _ _ _ _ _ _ _ _ ls _ C hl _ _ k => lv_bipush C.1 C.2.1 hd hv (k ls hl)
theorem rn_sipush {n : Int} {v : Int32} (hd : decode M.2.1 pc = .ok (.sipush n, 3)) (hv : (Int16.ofInt n).toInt32 = v) (k : Rn l G M d (pc + 3) lv (.int v :: st) u o u') : Rn l G M d pc lv st u o u' :=
  Rn.same k fun _ _ _ _ _ _ _ _ _ _ _ _ _ ls _ C hl _ _ k => lv_sipush C.1 C.2.1 hd hv (k ls hl)
theorem rn_lconst {n : Fin 2} {v : Int64} (hd : decode M.2.1 pc = .ok (.lconst n, 1)) (hv : Int64.ofNat (n : Nat) = v) (k : Rn l G M d (pc + 1) lv (.long v :: st) u o u') : Rn l G M d pc lv st u o u' :=
  Rn.same k fun _ _ _ _ _ _ _ _ _ _ _ _ _ ls _ C hl _ _ k => lv_lconst C.1 C.2.1 hd hv (k ls hl)
theorem rn_iload_n {k : Fin 4} {i x} (j : Nat) (hd : decode M.2.1 pc = .ok (.iload_n k, 1)) (hi : (k : Nat) = i) (hl : lv[j]? = some (i, .int x)) (kk : Rn l G M d (pc + 1) lv (.int x :: st) u o u') : Rn l G M d pc lv st u o u' :=
  Rn.same kk fun _ _ _ _ _ _ _ _ _ _ _ _ _ ls _ C h _ _ kk => lv_iload_n C.1 C.2.1 hd hi (lq_at h hl) (kk ls h)
theorem rn_iload {i x} (j : Nat) (hd : decode M.2.1 pc = .ok (.iload i, 2)) (hl : lv[j]? = some (i, .int x)) (kk : Rn l G M d (pc + 2) lv (.int x :: st) u o u') : Rn l G M d pc lv st u o u' :=
  Rn.same kk fun _ _ _ _ _ _ _ _ _ _ _ _ _ ls _ C h _ _ kk => lv_iload C.1 C.2.1 hd (lq_at h hl) (kk ls h)
theorem rn_lload_n {k : Fin 4} {i x} (j : Nat) (hd : decode M.2.1 pc = .ok (.lload_n k, 1)) (hi : (k : Nat) = i) (hl : lv[j]? = some (i, .long x)) (kk : Rn l G M d (pc + 1) lv (.long x :: st) u o u') : Rn l G M d pc lv st u o u' :=
  Rn.same kk fun _ _ _ _ _ _ _ _ _ _ _ _ _ ls _ C h _ _ kk => lv_lload_n C.1 C.2.1 hd hi (lq_at h hl) (kk ls h)
theorem rn_lload {i x} (j : Nat) (hd : decode M.2.1 pc = .ok (.lload i, 2)) (hl : lv[j]? = some (i, .long x)) (kk : Rn l G M d (pc + 2) lv (.long x :: st) u o u') : Rn l G M d pc lv st u o u' :=
  Rn.same kk fun _ _ _ _ _ _ _ _ _ _ _ _ _ ls _ C h _ _ kk => lv_lload C.1 C.2.1 hd (lq_at h hl) (kk ls h)
theorem rn_aload_n {k : Fin 4} {i r} (j : Nat) (hd : decode M.2.1 pc = .ok (.aload_n k, 1)) (hi : (k : Nat) = i) (hl : lv[j]? = some (i, rv r)) (kk : Rn l G M d (pc + 1) lv (rv r :: st) u o u') : Rn l G M d pc lv st u o u' :=
  Rn.same kk fun _ _ _ _ _ _ _ _ _ _ _ _ _ ls _ C h _ _ kk => by
    cases r with
    | none => exact lv_aload_nN C.1 C.2.1 hd hi (lq_at h hl) (kk ls h)
    | some a => exact lv_aload_n C.1 C.2.1 hd hi (lq_at h hl) (kk ls h)
theorem rn_aload {i r} (j : Nat) (hd : decode M.2.1 pc = .ok (.aload i, 2)) (hl : lv[j]? = some (i, rv r)) (kk : Rn l G M d (pc + 2) lv (rv r :: st) u o u') : Rn l G M d pc lv st u o u' :=
  Rn.same kk fun _ _ _ _ _ _ _ _ _ _ _ _ _ ls _ C h _ _ kk => by
    cases r with
    | none => exact lv_aloadN C.1 C.2.1 hd (lq_at h hl) (kk ls h)
    | some a => exact lv_aload C.1 C.2.1 hd (lq_at h hl) (kk ls h)
def st1 (lv : List (Nat × Value)) (i : Nat) (v : Value) : List (Nat × Value) := (i, v) :: lv.filter (fun q => !(q.1 == i) && !(q.1 + 1 == i && q.2.category == 2))
def st2 (lv : List (Nat × Value)) (i : Nat) (v : Value) : List (Nat × Value) := (i, v) :: lv.filter (fun q => !(q.1 == i) && (!(q.1 == i + 1) && !(q.1 + 1 == i && q.2.category == 2)))
theorem st1_gq (G : Gt) (lv : List (Nat × Value)) (i : Nat) (v : Value) : (i, gv G v) :: (lv.map (gq G)).filter (fun q => !(q.1 == i) && !(q.1 + 1 == i && q.2.category == 2)) = (st1 lv i v).map (gq G) := by
  unfold st1
  rw [List.map_cons, List.filter_map]
  congr 2
  apply List.filter_congr
  intro q _
  show _ = _
  simp only [Function.comp, gq, gv_cat]
theorem st2_gq (G : Gt) (lv : List (Nat × Value)) (i : Nat) (v : Value) : (i, gv G v) :: (lv.map (gq G)).filter (fun q => !(q.1 == i) && (!(q.1 == i + 1) && !(q.1 + 1 == i && q.2.category == 2))) = (st2 lv i v).map (gq G) := by
  unfold st2
  rw [List.map_cons, List.filter_map]
  congr 2
  apply List.filter_congr
  intro q _
  show _ = _
  simp only [Function.comp, gq, gv_cat]
theorem rn_istore_n {k : Fin 4} {i x} (hd : decode M.2.1 pc = .ok (.istore_n k, 1)) (hi : (k : Nat) = i) (hn : i < M.2.2.1) (hl : st1 lv i (.int x) = lv') (kk : Rn l G M d (pc + 1) lv' st u o u') : Rn l G M d pc lv (.int x :: st) u o u' :=
  Rn.same kk fun _ _ _ _ _ _ _ _ _ _ _ _ _ ls _ C h _ _ kk => lv_istore_n C.1 C.2.1 hd hi h hn (st1_gq G lv i (.int x)) (fun ls2 h2 => kk ls2 (hl ▸ h2))
theorem rn_istore {i x} (hd : decode M.2.1 pc = .ok (.istore i, 2)) (hn : i < M.2.2.1) (hl : st1 lv i (.int x) = lv') (kk : Rn l G M d (pc + 2) lv' st u o u') : Rn l G M d pc lv (.int x :: st) u o u' :=
  Rn.same kk fun _ _ _ _ _ _ _ _ _ _ _ _ _ ls _ C h _ _ kk => lv_istore C.1 C.2.1 hd h hn (st1_gq G lv i (.int x)) (fun ls2 h2 => kk ls2 (hl ▸ h2))
theorem rn_lstore_n {k : Fin 4} {i x} (hd : decode M.2.1 pc = .ok (.lstore_n k, 1)) (hi : (k : Nat) = i) (hn : i + 1 < M.2.2.1) (hl : st2 lv i (.long x) = lv') (kk : Rn l G M d (pc + 1) lv' st u o u') : Rn l G M d pc lv (.long x :: st) u o u' :=
  Rn.same kk fun _ _ _ _ _ _ _ _ _ _ _ _ _ ls _ C h _ _ kk => lv_lstore_n C.1 C.2.1 hd hi h hn (st2_gq G lv i (.long x)) (fun ls2 h2 => kk ls2 (hl ▸ h2))
theorem rn_lstore {i x} (hd : decode M.2.1 pc = .ok (.lstore i, 2)) (hn : i + 1 < M.2.2.1) (hl : st2 lv i (.long x) = lv') (kk : Rn l G M d (pc + 2) lv' st u o u') : Rn l G M d pc lv (.long x :: st) u o u' :=
  Rn.same kk fun _ _ _ _ _ _ _ _ _ _ _ _ _ ls _ C h _ _ kk => lv_lstore C.1 C.2.1 hd h hn (st2_gq G lv i (.long x)) (fun ls2 h2 => kk ls2 (hl ▸ h2))
theorem rn_astore_n {k : Fin 4} {i r} (hd : decode M.2.1 pc = .ok (.astore_n k, 1)) (hi : (k : Nat) = i) (hn : i < M.2.2.1) (hl : st1 lv i (rv r) = lv') (kk : Rn l G M d (pc + 1) lv' st u o u') : Rn l G M d pc lv (rv r :: st) u o u' :=
  Rn.same kk fun _ _ _ _ _ _ _ _ _ _ _ _ _ ls _ C h _ _ kk => by
    cases r with
    | none => exact lv_astore_nN C.1 C.2.1 hd hi h hn (st1_gq G lv i (rv none)) (fun ls2 h2 => kk ls2 (hl ▸ h2))
    | some a => exact lv_astore_n C.1 C.2.1 hd hi h hn (st1_gq G lv i (rv (some a))) (fun ls2 h2 => kk ls2 (hl ▸ h2))
theorem rn_astore {i r} (hd : decode M.2.1 pc = .ok (.astore i, 2)) (hn : i < M.2.2.1) (hl : st1 lv i (rv r) = lv') (kk : Rn l G M d (pc + 2) lv' st u o u') : Rn l G M d pc lv (rv r :: st) u o u' :=
  Rn.same kk fun _ _ _ _ _ _ _ _ _ _ _ _ _ ls _ C h _ _ kk => by
    cases r with
    | none => exact lv_astoreN C.1 C.2.1 hd h hn (st1_gq G lv i (rv none)) (fun ls2 h2 => kk ls2 (hl ▸ h2))
    | some a => exact lv_astore C.1 C.2.1 hd h hn (st1_gq G lv i (rv (some a))) (fun ls2 h2 => kk ls2 (hl ▸ h2))
theorem rn_iinc {i : Nat} {n : Int} {x v : Int32} (j : Nat) (hd : decode M.2.1 pc = .ok (.iinc i n, 3)) (hk : lv[j]? = some (i, .int x)) (hv : x + Int32.ofInt n = v) (hn : i < M.2.2.1) (hl : st1 lv i (.int v) = lv') (kk : Rn l G M d (pc + 3) lv' st u o u') : Rn l G M d pc lv st u o u' :=
  Rn.same kk fun _ _ _ _ _ _ _ _ _ _ _ _ _ ls _ C h _ _ kk => lv_iinc C.1 C.2.1 hd h (k := j) (by rw [List.getElem?_map, hk]; rfl) hv hn (st1_gq G lv i (.int v)) (fun ls2 h2 => kk ls2 (hl ▸ h2))
end RN
