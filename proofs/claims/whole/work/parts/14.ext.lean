/-! strings, statics, System.arraycopy -/
section RN8
variable {l : Launch} {G : Gt} {M M1 : MI} {d d1 pc : Nat} {lv lv' : List (Nat × Value)} {st rest As : List Value} {u u1 u' : Mem} {o : Outcome} {v : Option Value} {idx n b i : Nat}
theorem gv_ext (G : Gt) (i : Nat) : gv G (rv (some (1000000 + i))) = .ref (gX G i) := by show Value.ref _ = _; rw [gr_ext]
theorem rn_getsC (hw : Cond.fieldLink M.1.cls idx "java/lang/String" "COMPACT_STRINGS" "Z" ∈ lw_g) (hd : decode M.2.1 pc = .ok (.getstatic idx, 3)) (k : Rn l G M d (pc + 3) lv (.int 1 :: st) u o u') : Rn l G M d pc lv st u o u' :=
  Rn.same k fun _ _ _ _ _ _ _ _ _ _ _ _ _ ls _ C hl _ hS k => va_gets C.1 C.2.1 C.wd.2.2.1.1.2.2.1 hS C.own (C.hts _ hw) (fun _ h => h) hd (k ls hl)
theorem rn_getsE0 (hw : Cond.fieldLink M.1.cls idx "jdk/internal/util/Preconditions" "SIOOBE_FORMATTER" "Ljava/util/function/BiFunction;" ∈ lw_g) (hd : decode M.2.1 pc = .ok (.getstatic idx, 3)) (k : Rn l G M d (pc + 3) lv (rv (exs G 0) :: st) u o u') : Rn l G M d pc lv st u o u' :=
  Rn.same k fun _ _ _ _ _ _ _ _ _ _ _ _ _ ls _ C hl _ hS k => va_gets C.1 C.2.1 C.wd.2.2.1.1.2.2.2.1 hS C.own (C.hts _ hw) (fun _ h => h) hd (k ls hl)
theorem rn_getsE1 (hw : Cond.fieldLink M.1.cls idx "java/lang/Throwable" "UNASSIGNED_STACK" "[Ljava/lang/StackTraceElement;" ∈ lw_g) (hd : decode M.2.1 pc = .ok (.getstatic idx, 3)) (k : Rn l G M d (pc + 3) lv (rv (exs G 1) :: st) u o u') : Rn l G M d pc lv st u o u' :=
  Rn.same k fun _ _ _ _ _ _ _ _ _ _ _ _ _ ls _ C hl _ hS k => va_gets C.1 C.2.1 C.wd.2.2.1.1.2.2.2.2.1 hS C.own (C.hts _ hw) (fun _ h => h) hd (k ls hl)
theorem rn_getsE2 (hw : Cond.fieldLink M.1.cls idx "java/lang/Throwable" "SUPPRESSED_SENTINEL" "Ljava/util/List;" ∈ lw_g) (hd : decode M.2.1 pc = .ok (.getstatic idx, 3)) (k : Rn l G M d (pc + 3) lv (rv (exs G 2) :: st) u o u') : Rn l G M d pc lv st u o u' :=
  Rn.same k fun _ _ _ _ _ _ _ _ _ _ _ _ _ ls _ C hl _ hS k => va_gets C.1 C.2.1 C.wd.2.2.1.1.2.2.2.2.2.1 hS C.own (C.hts _ hw) (fun _ h => h) hd (k ls hl)
theorem rn_strVal (hi : i < 10) (hw : Cond.fieldLink M.1.cls idx "java/lang/String" "value" "[B" ∈ lw_g) (hd : decode M.2.1 pc = .ok (.getfield idx, 3)) (k : Rn l G M d (pc + 3) lv (rv (some (1000000 + (100 + i))) :: st) u o u') : Rn l G M d pc lv (rv (some (1000000 + i)) :: st) u o u' :=
  Rn.same k fun _ _ _ _ _ _ _ _ _ _ _ _ _ ls _ C hl _ hS k => by
    have k1 := k ls hl
    rw [List.map_cons, gv_ext] at k1 ⊢
    exact vk_getf C.1 C.2.1 (C.wd.2.2.1.1.1 i hi).2.2.1 hS C.own (C.hts _ hw) (fun _ h => h) hd k1
theorem rn_strCoder (hi : i < 10) (hw : Cond.fieldLink M.1.cls idx "java/lang/String" "coder" "B" ∈ lw_g) (hd : decode M.2.1 pc = .ok (.getfield idx, 3)) (k : Rn l G M d (pc + 3) lv (.int 0 :: st) u o u') : Rn l G M d pc lv (rv (some (1000000 + i)) :: st) u o u' :=
  Rn.same k fun _ _ _ _ _ _ _ _ _ _ _ _ _ ls _ C hl _ hS k => by
    rw [List.map_cons, gv_ext]
    exact vk_getf C.1 C.2.1 (C.wd.2.2.1.1.1 i hi).2.1 hS C.own (C.hts _ hw) (fun _ h => h) hd (k ls hl)
theorem rn_strAln (hi : i < 10) (hd : decode M.2.1 pc = .ok (.arraylength, 1)) (k : Rn l G M d (pc + 1) lv (.int (Int32.ofNat (stL.getD i 0)) :: st) u o u') : Rn l G M d pc lv (rv (some (1000000 + (100 + i))) :: st) u o u' :=
  Rn.same k fun _ _ _ _ _ _ _ _ _ _ _ _ _ ls _ C hl _ hS k => by
    rw [List.map_cons, gv_ext]
    obtain ⟨cell, h1, h2, h3, h4, h5, h6, h7⟩ := (C.wd.2.2.1.1.1 i hi).2.2.2.kept hS.2.1
    exact W.alen (n := Int32.ofNat (stL.getD i 0)) C.1 C.2.1 h1 h2 h5 rfl rfl hd (k ls hl)
theorem rn_strBald {j : Int32} (hi : i < 10) (hin : inb j (stL.getD i 0) = true) (hd : decode M.2.1 pc = .ok (.baload, 1)) (k : Rn l G M d (pc + 1) lv (.int ((stB.getD i []).getD j.toNatClampNeg 0) :: st) u o u') : Rn l G M d pc lv (.int j :: rv (some (1000000 + (100 + i))) :: st) u o u' :=
  Rn.same k fun _ _ _ _ _ _ _ _ _ _ _ _ _ ls _ C hl _ hS k => by
    rw [List.map_cons, List.map_cons, gv_ext]
    obtain ⟨cell, h1, h2, h3, h4, h5, h6, h7⟩ := (C.wd.2.2.1.1.1 i hi).2.2.2.kept hS.2.1
    have hv := inb_spec hin
    have hlt : j.toNatClampNeg < stL.getD i 0 := Nat.not_le.mp fun q => hv (Or.inr q)
    exact W.bald (v := .int ((stB.getD i []).getD j.toNatClampNeg 0)) C.1 C.2.1 h1 h2 h3 (fun q => q.elim (fun q => hv (Or.inl q)) (fun q => absurd (Nat.le_trans h4 q) (Nat.not_le.mpr hlt))) (h6 _ hlt) rfl rfl hd (k ls hl)
theorem rn_nret {v : Int32} {ty : FieldType} (hv : narrow ty (.int v) = .int v) (hr : M.2.2.2 = some ty) (hd : decode M.2.1 pc = .ok (.ireturn, 1)) : Rn l G M d pc lv [.int v] u (.returned (some (.int v))) u :=
  Rn.end fun _ _ _ _ _ _ _ _ _ _ _ _ _ _ C hq hf => W.zret C.1 C.2.1 (C.2.2.2.1.trans hr) hv hq hf hd C.2.2.2.2.1
/-- a call on a string -/
theorem rn_callVs (hE : Ex l G M1 d1 (rv (some (1000000 + i)) :: As) u (.returned v) u1) (hd1 : d1 + 1 ≤ d) (hi10 : i < 10) (hcl : M1.1.cls = "java/lang/String") (hc : Cond.code M1.1 M1.2.1 M1.2.2.1 M1.2.2.2 ∈ lw_g) (hi : Cond.initialized M1.1.cls ∈ lw_g) (hl : Cond.methodLink M.1.cls idx M1.1 ∈ lw_g) (hs : Cond.instanceMethod M1.1 ∈ lw_g) (hse : Cond.selects M1.1.cls M1.1 M1.1 ∈ lw_g)
    (hd : M1.1.cls ≠ "java/lang/invoke/MethodHandle" ∧ M1.1.cls ≠ "java/lang/invoke/VarHandle" ∧ (parseMethodDescriptor M1.1.desc).map (fun d => d.parameters.length) = some n) (hn : As.length = n) (hst : (rest.map fun v => v.category).sum ≤ 8) (hdg : decode M.2.1 pc = .ok (.invokevirtual idx, 3)) (hq : st = As.reverse ++ rv (some (1000000 + i)) :: rest)
    (k : Rn l G M d (pc + 3) lv (v.toList ++ rest) u1 o u') : Rn l G M d pc lv st u o u' := by
  subst hq
  refine Rn.cl hE k fun p e R s m args below meth c H locs cells slots ls C hl' hM hS hf => ?_
  have hr : ∃ cell : Cell, H[gX G i]? = some cell ∧ cell.vm.isStatics = false ∧ s.vm.findClass "java/lang/String" = some cell.cls := by
    obtain ⟨cell, z1, z2, z3, -⟩ := (C.wd.2.2.1.1.1 i hi10).1.kept hS.2.1
    exact ⟨cell, z1, z2, z3⟩
  rw [← gr_ext, ← hcl] at hr
  exact va_runV (As := As.map (gv G)) (C := M1.1.cls) ⟨C.1, C.2.1, C.2.2.1, C.own, C.hts⟩ hE.2.2 ⟨callB_g C.hts hc hi hl hd hE.2.1 hd1 C.fr C.lo, C.hts _ hs, C.hts _ hse⟩ ⟨exP_blind G _ u, hr, exP_at C.wd hM hS⟩ rfl (by rw [List.length_map]; exact hn) hl'.1 (by rw [List.map_append, List.map_reverse, List.map_cons]; rfl) (lv_room (by rw [cat_gv]; exact hst)) hdg hf
end RN8
