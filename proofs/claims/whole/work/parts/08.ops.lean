/-! rows of arithmetic, the stack, branches -/
theorem Cx.own {G : Gt} {M : MI} {d : Nat} {p : Program} {R : Room} {s : State} {m : MethodId} {args : Array Value} {meth : Method} {c : Code} (C : Cx G M d p R s m args meth c) : s.vm.findClass M.1.cls = some m.cls := C.2.2.2.2.2.2.1
theorem Cx.hts {G : Gt} {M : MI} {d : Nat} {p : Program} {R : Room} {s : State} {m : MethodId} {args : Array Value} {meth : Method} {c : Code} (C : Cx G M d p R s m args meth c) : ∀ w ∈ lw_g, w.before args s = true := C.2.2.2.2.2.2.2.1
theorem Cx.wd {G : Gt} {M : MI} {d : Nat} {p : Program} {R : Room} {s : State} {m : MethodId} {args : Array Value} {meth : Method} {c : Code} (C : Cx G M d p R s m args meth c) : Wd G s := C.2.2.2.2.2.2.2.2.1
theorem Cx.fr {G : Gt} {M : MI} {d : Nat} {p : Program} {R : Room} {s : State} {m : MethodId} {args : Array Value} {meth : Method} {c : Code} (C : Cx G M d p R s m args meth c) : d ≤ R.frames := C.2.2.2.2.2.2.2.2.2.1
theorem Cx.lo {G : Gt} {M : MI} {d : Nat} {p : Program} {R : Room} {s : State} {m : MethodId} {args : Array Value} {meth : Method} {c : Code} (C : Cx G M d p R s m args meth c) : 60 * d ≤ R.locals := C.2.2.2.2.2.2.2.2.2.2.1
theorem Cx.xt {G : Gt} {M : MI} {d : Nat} {p : Program} {R : Room} {s : State} {m : MethodId} {args : Array Value} {meth : Method} {c : Code} (C : Cx G M d p R s m args meth c) : ∀ hh, XT M.1 = some hh → c.exceptionTable.toList.map (fun h => (h.startPc, h.endPc, h.handlerPc, h.catchType)) = hh := C.2.2.2.2.2.2.2.2.2.2.2
section RN2
variable {l : Launch} {G : Gt} {M : MI} {d pc : Nat} {lv lv' : List (Nat × Value)} {st : List Value} {u u' : Mem} {o : Outcome}
theorem rn_iadd {x y : Int32} (hd : decode M.2.1 pc = .ok (.iadd, 1)) (k : Rn l G M d (pc + 1) lv (.int (x + y) :: st) u o u') : Rn l G M d pc lv (.int y :: .int x :: st) u o u' :=
  Rn.same k fun _ _ _ _ _ _ _ _ _ _ _ _ _ ls _ C hl _ _ k => lv_iadd C.1 C.2.1 hd (k ls hl)
theorem rn_isub {x y : Int32} (hd : decode M.2.1 pc = .ok (.isub, 1)) (k : Rn l G M d (pc + 1) lv (.int (x - y) :: st) u o u') : Rn l G M d pc lv (.int y :: .int x :: st) u o u' :=
  Rn.same k fun _ _ _ _ _ _ _ _ _ _ _ _ _ ls _ C hl _ _ k => lv_isub C.1 C.2.1 hd (k ls hl)
theorem rn_imul {x y : Int32} (hd : decode M.2.1 pc = .ok (.imul, 1)) (k : Rn l G M d (pc + 1) lv (.int (x * y) :: st) u o u') : Rn l G M d pc lv (.int y :: .int x :: st) u o u' :=
  Rn.same k fun _ _ _ _ _ _ _ _ _ _ _ _ _ ls _ C hl _ _ k => lv_imul C.1 C.2.1 hd (k ls hl)
theorem rn_iand {x y : Int32} (hd : decode M.2.1 pc = .ok (.iand, 1)) (k : Rn l G M d (pc + 1) lv (.int (x &&& y) :: st) u o u') : Rn l G M d pc lv (.int y :: .int x :: st) u o u' :=
  Rn.same k fun _ _ _ _ _ _ _ _ _ _ _ _ _ ls _ C hl _ _ k => lv_iand C.1 C.2.1 hd (k ls hl)
theorem rn_ior {x y : Int32} (hd : decode M.2.1 pc = .ok (.ior, 1)) (k : Rn l G M d (pc + 1) lv (.int (x ||| y) :: st) u o u') : Rn l G M d pc lv (.int y :: .int x :: st) u o u' :=
  Rn.same k fun _ _ _ _ _ _ _ _ _ _ _ _ _ ls _ C hl _ _ k => lv_ior C.1 C.2.1 hd (k ls hl)
theorem rn_ishl {x y : Int32} (hd : decode M.2.1 pc = .ok (.ishl, 1)) (k : Rn l G M d (pc + 1) lv (.int (x <<< (y &&& 31)) :: st) u o u') : Rn l G M d pc lv (.int y :: .int x :: st) u o u' :=
  Rn.same k fun _ _ _ _ _ _ _ _ _ _ _ _ _ ls _ C hl _ _ k => lv_ishl C.1 C.2.1 hd (k ls hl)
theorem rn_ishr {x y : Int32} (hd : decode M.2.1 pc = .ok (.ishr, 1)) (k : Rn l G M d (pc + 1) lv (.int (x >>> (y &&& 31)) :: st) u o u') : Rn l G M d pc lv (.int y :: .int x :: st) u o u' :=
  Rn.same k fun _ _ _ _ _ _ _ _ _ _ _ _ _ ls _ C hl _ _ k => lv_ishr C.1 C.2.1 hd (k ls hl)
theorem rn_ladd {x y : Int64} (hd : decode M.2.1 pc = .ok (.ladd, 1)) (k : Rn l G M d (pc + 1) lv (.long (x + y) :: st) u o u') : Rn l G M d pc lv (.long y :: .long x :: st) u o u' :=
  Rn.same k fun _ _ _ _ _ _ _ _ _ _ _ _ _ ls _ C hl _ _ k => lv_ladd C.1 C.2.1 hd (k ls hl)
theorem rn_lsub {x y : Int64} (hd : decode M.2.1 pc = .ok (.lsub, 1)) (k : Rn l G M d (pc + 1) lv (.long (x - y) :: st) u o u') : Rn l G M d pc lv (.long y :: .long x :: st) u o u' :=
  Rn.same k fun _ _ _ _ _ _ _ _ _ _ _ _ _ ls _ C hl _ _ k => lv_lsub C.1 C.2.1 hd (k ls hl)
theorem rn_lmul {x y : Int64} (hd : decode M.2.1 pc = .ok (.lmul, 1)) (k : Rn l G M d (pc + 1) lv (.long (x * y) :: st) u o u') : Rn l G M d pc lv (.long y :: .long x :: st) u o u' :=
  Rn.same k fun _ _ _ _ _ _ _ _ _ _ _ _ _ ls _ C hl _ _ k => lv_lmul C.1 C.2.1 hd (k ls hl)
theorem rn_idiv {x y : Int32} (hd : decode M.2.1 pc = .ok (.idiv, 1)) (hne : ¬ y = 0) (k : Rn l G M d (pc + 1) lv (.int (x / y) :: st) u o u') : Rn l G M d pc lv (.int y :: .int x :: st) u o u' :=
  Rn.same k fun _ _ _ _ _ _ _ _ _ _ _ _ _ ls _ C hl _ _ k => lv_idiv C.1 C.2.1 hd hne (k ls hl)
theorem rn_irem {x y : Int32} (hd : decode M.2.1 pc = .ok (.irem, 1)) (hne : ¬ y = 0) (k : Rn l G M d (pc + 1) lv (.int (x - x / y * y) :: st) u o u') : Rn l G M d pc lv (.int y :: .int x :: st) u o u' :=
  Rn.same k fun _ _ _ _ _ _ _ _ _ _ _ _ _ ls _ C hl _ _ k => lv_irem C.1 C.2.1 hd hne (k ls hl)
theorem rn_ldiv {x y : Int64} (hd : decode M.2.1 pc = .ok (.ldiv, 1)) (hne : ¬ y = 0) (k : Rn l G M d (pc + 1) lv (.long (x / y) :: st) u o u') : Rn l G M d pc lv (.long y :: .long x :: st) u o u' :=
  Rn.same k fun _ _ _ _ _ _ _ _ _ _ _ _ _ ls _ C hl _ _ k => lv_ldiv C.1 C.2.1 hd hne (k ls hl)
theorem rn_ineg {x : Int32} (hd : decode M.2.1 pc = .ok (.ineg, 1)) (k : Rn l G M d (pc + 1) lv (.int (-x) :: st) u o u') : Rn l G M d pc lv (.int x :: st) u o u' :=
  Rn.same k fun _ _ _ _ _ _ _ _ _ _ _ _ _ ls _ C hl _ _ k => lv_ineg C.1 C.2.1 hd (k ls hl)
theorem rn_iushr {x y : Int32} (hd : decode M.2.1 pc = .ok (.iushr, 1)) (k : Rn l G M d (pc + 1) lv (.int ((x.toUInt32 >>> (y.toUInt32 &&& Int32.toUInt32 31)).toInt32) :: st) u o u') : Rn l G M d pc lv (.int y :: .int x :: st) u o u' :=
  Rn.same k fun _ _ _ _ _ _ _ _ _ _ _ _ _ ls _ C hl _ _ k => lv_iushr C.1 C.2.1 hd rfl (k ls hl)
theorem rn_lshl {x : Int64} {y : Int32} (hd : decode M.2.1 pc = .ok (.lshl, 1)) (k : Rn l G M d (pc + 1) lv (.long (x <<< (y.toInt64 &&& 63)) :: st) u o u') : Rn l G M d pc lv (.int y :: .long x :: st) u o u' :=
  Rn.same k fun _ _ _ _ _ _ _ _ _ _ _ _ _ ls _ C hl _ _ k => lv_lshl C.1 C.2.1 hd rfl (k ls hl)
theorem rn_i2l {x : Int32} (hd : decode M.2.1 pc = .ok (.i2l, 1)) (k : Rn l G M d (pc + 1) lv (.long (x.toInt64) :: st) u o u') : Rn l G M d pc lv (.int x :: st) u o u' :=
  Rn.same k fun _ _ _ _ _ _ _ _ _ _ _ _ _ ls _ C hl _ _ k => lv_i2l C.1 C.2.1 hd rfl (k ls hl)
theorem rn_l2i {x : Int64} (hd : decode M.2.1 pc = .ok (.l2i, 1)) (k : Rn l G M d (pc + 1) lv (.int (x.toInt32) :: st) u o u') : Rn l G M d pc lv (.long x :: st) u o u' :=
  Rn.same k fun _ _ _ _ _ _ _ _ _ _ _ _ _ ls _ C hl _ _ k => lv_l2i C.1 C.2.1 hd rfl (k ls hl)
theorem rn_i2b {x : Int32} (hd : decode M.2.1 pc = .ok (.i2b, 1)) (k : Rn l G M d (pc + 1) lv (.int (x.toInt8.toInt32) :: st) u o u') : Rn l G M d pc lv (.int x :: st) u o u' :=
  Rn.same k fun _ _ _ _ _ _ _ _ _ _ _ _ _ ls _ C hl _ _ k => lv_i2b C.1 C.2.1 hd rfl (k ls hl)
theorem rn_i2c {x : Int32} (hd : decode M.2.1 pc = .ok (.i2c, 1)) (k : Rn l G M d (pc + 1) lv (.int ((x.toUInt32 % 65536).toInt32) :: st) u o u') : Rn l G M d pc lv (.int x :: st) u o u' :=
  Rn.same k fun _ _ _ _ _ _ _ _ _ _ _ _ _ ls _ C hl _ _ k => lv_i2c C.1 C.2.1 hd rfl (k ls hl)
theorem rn_lcmp {x y : Int64} (hd : decode M.2.1 pc = .ok (.lcmp, 1)) (k : Rn l G M d (pc + 1) lv (.int (lg_cmp x y) :: st) u o u') : Rn l G M d pc lv (.long y :: .long x :: st) u o u' :=
  Rn.same k fun _ _ _ _ _ _ _ _ _ _ _ _ _ ls _ C hl _ _ k => W.lcmp C.1 C.2.1 hd (k ls hl)
theorem rn_dup {va : Value} (hd : decode M.2.1 pc = .ok (.dup, 1)) (hva : va.category = 1) (k : Rn l G M d (pc + 1) lv (va :: va :: st) u o u') : Rn l G M d pc lv (va :: st) u o u' :=
  Rn.same k fun _ _ _ _ _ _ _ _ _ _ _ _ _ ls _ C hl _ _ k => lv_dup C.1 C.2.1 hd (by rw [gv_cat]; exact hva) (k ls hl)
theorem rn_pop {va : Value} (hd : decode M.2.1 pc = .ok (.pop, 1)) (hva : va.category = 1) (k : Rn l G M d (pc + 1) lv st u o u') : Rn l G M d pc lv (va :: st) u o u' :=
  Rn.same k fun _ _ _ _ _ _ _ _ _ _ _ _ _ ls _ C hl _ _ k => lv_pop C.1 C.2.1 hd (by rw [gv_cat]; exact hva) (k ls hl)
theorem rn_dup2 {va vb : Value} (hd : decode M.2.1 pc = .ok (.dup2, 1)) (hva : va.category = 1) (hvb : vb.category = 1) (k : Rn l G M d (pc + 1) lv (va :: vb :: va :: vb :: st) u o u') : Rn l G M d pc lv (va :: vb :: st) u o u' :=
  Rn.same k fun _ _ _ _ _ _ _ _ _ _ _ _ _ ls _ C hl _ _ k => lv_dup2_11 C.1 C.2.1 hd (by rw [gv_cat]; exact hva) (by rw [gv_cat]; exact hvb) (k ls hl)
theorem rn_null (hd : decode M.2.1 pc = .ok (.aconst_null, 1)) (k : Rn l G M d (pc + 1) lv (rv none :: st) u o u') : Rn l G M d pc lv st u o u' :=
  Rn.same k fun _ _ _ _ _ _ _ _ _ _ _ _ _ ls _ C hl _ _ k => lv_null C.1 C.2.1 hd (k ls hl)
theorem rn_goto {off : Int} {tgt : Nat} (hd : decode M.2.1 pc = .ok (.goto off, 3)) (ht : (pc : Int) + off = (tgt : Int)) (k : Rn l G M d tgt lv st u o u') : Rn l G M d pc lv st u o u' :=
  Rn.same k fun _ _ _ _ _ _ _ _ _ _ _ _ _ ls _ C hl _ _ k => lv_goto C.1 C.2.1 hd ht (k ls hl)
theorem rn_ieq_t {x y : Int32} {off : Int} {tgt : Nat} (hd : decode M.2.1 pc = .ok (.if_icmp .eq off, 3)) (ht : (pc : Int) + off = (tgt : Int)) (h : x = y) (k : Rn l G M d tgt lv st u o u') : Rn l G M d pc lv (.int y :: .int x :: st) u o u' :=
  Rn.same k fun _ _ _ _ _ _ _ _ _ _ _ _ _ ls _ C hl _ _ k => lv_icmp_eq C.1 C.2.1 hd ht (fun _ => k ls hl) (fun z => absurd (by first | exact h | exact Int32.not_lt.mp h) z)
theorem rn_ieq_f {x y : Int32} {off : Int} (tgt : Nat) (hd : decode M.2.1 pc = .ok (.if_icmp .eq off, 3)) (ht : (pc : Int) + off = (tgt : Int)) (h : ¬ x = y) (k : Rn l G M d (pc + 3) lv st u o u') : Rn l G M d pc lv (.int y :: .int x :: st) u o u' :=
  Rn.same k fun _ _ _ _ _ _ _ _ _ _ _ _ _ ls _ C hl _ _ k => lv_icmp_eq C.1 C.2.1 hd ht (fun z => absurd z (by first | exact h | exact Int32.not_le.mpr h | exact fun q => q h)) (fun _ => k ls hl)
theorem rn_zeq_t {x : Int32} {off : Int} {tgt : Nat} (hd : decode M.2.1 pc = .ok (.ifCond .eq off, 3)) (ht : (pc : Int) + off = (tgt : Int)) (h : x = 0) (k : Rn l G M d tgt lv st u o u') : Rn l G M d pc lv (.int x :: st) u o u' :=
  Rn.same k fun _ _ _ _ _ _ _ _ _ _ _ _ _ ls _ C hl _ _ k => lv_if_eq C.1 C.2.1 hd ht (fun _ => k ls hl) (fun z => absurd (by first | exact h | exact Int32.not_lt.mp h) z)
theorem rn_zeq_f {x : Int32} {off : Int} (tgt : Nat) (hd : decode M.2.1 pc = .ok (.ifCond .eq off, 3)) (ht : (pc : Int) + off = (tgt : Int)) (h : ¬ x = 0) (k : Rn l G M d (pc + 3) lv st u o u') : Rn l G M d pc lv (.int x :: st) u o u' :=
  Rn.same k fun _ _ _ _ _ _ _ _ _ _ _ _ _ ls _ C hl _ _ k => lv_if_eq C.1 C.2.1 hd ht (fun z => absurd z (by first | exact h | exact Int32.not_le.mpr h | exact fun q => q h)) (fun _ => k ls hl)
theorem rn_ine_t {x y : Int32} {off : Int} {tgt : Nat} (hd : decode M.2.1 pc = .ok (.if_icmp .ne off, 3)) (ht : (pc : Int) + off = (tgt : Int)) (h : ¬ x = y) (k : Rn l G M d tgt lv st u o u') : Rn l G M d pc lv (.int y :: .int x :: st) u o u' :=
  Rn.same k fun _ _ _ _ _ _ _ _ _ _ _ _ _ ls _ C hl _ _ k => lv_icmp_ne C.1 C.2.1 hd ht (fun _ => k ls hl) (fun z => absurd z h)
theorem rn_ine_f {x y : Int32} {off : Int} (tgt : Nat) (hd : decode M.2.1 pc = .ok (.if_icmp .ne off, 3)) (ht : (pc : Int) + off = (tgt : Int)) (h : x = y) (k : Rn l G M d (pc + 3) lv st u o u') : Rn l G M d pc lv (.int y :: .int x :: st) u o u' :=
  Rn.same k fun _ _ _ _ _ _ _ _ _ _ _ _ _ ls _ C hl _ _ k => lv_icmp_ne C.1 C.2.1 hd ht (fun z => absurd z (by first | exact h | exact Int32.not_le.mpr h | exact fun q => q h)) (fun _ => k ls hl)
theorem rn_zne_t {x : Int32} {off : Int} {tgt : Nat} (hd : decode M.2.1 pc = .ok (.ifCond .ne off, 3)) (ht : (pc : Int) + off = (tgt : Int)) (h : ¬ x = 0) (k : Rn l G M d tgt lv st u o u') : Rn l G M d pc lv (.int x :: st) u o u' :=
  Rn.same k fun _ _ _ _ _ _ _ _ _ _ _ _ _ ls _ C hl _ _ k => lv_if_ne C.1 C.2.1 hd ht (fun _ => k ls hl) (fun z => absurd z h)
theorem rn_zne_f {x : Int32} {off : Int} (tgt : Nat) (hd : decode M.2.1 pc = .ok (.ifCond .ne off, 3)) (ht : (pc : Int) + off = (tgt : Int)) (h : x = 0) (k : Rn l G M d (pc + 3) lv st u o u') : Rn l G M d pc lv (.int x :: st) u o u' :=
  Rn.same k fun _ _ _ _ _ _ _ _ _ _ _ _ _ ls _ C hl _ _ k => lv_if_ne C.1 C.2.1 hd ht (fun z => absurd z (by first | exact h | exact Int32.not_le.mpr h | exact fun q => q h)) (fun _ => k ls hl)
theorem rn_ilt_t {x y : Int32} {off : Int} {tgt : Nat} (hd : decode M.2.1 pc = .ok (.if_icmp .lt off, 3)) (ht : (pc : Int) + off = (tgt : Int)) (h : x < y) (k : Rn l G M d tgt lv st u o u') : Rn l G M d pc lv (.int y :: .int x :: st) u o u' :=
  Rn.same k fun _ _ _ _ _ _ _ _ _ _ _ _ _ ls _ C hl _ _ k => lv_icmp_lt C.1 C.2.1 hd ht (fun _ => k ls hl) (fun z => absurd (by first | exact h | exact Int32.not_lt.mp h) z)
theorem rn_ilt_f {x y : Int32} {off : Int} (tgt : Nat) (hd : decode M.2.1 pc = .ok (.if_icmp .lt off, 3)) (ht : (pc : Int) + off = (tgt : Int)) (h : ¬ x < y) (k : Rn l G M d (pc + 3) lv st u o u') : Rn l G M d pc lv (.int y :: .int x :: st) u o u' :=
  Rn.same k fun _ _ _ _ _ _ _ _ _ _ _ _ _ ls _ C hl _ _ k => lv_icmp_lt C.1 C.2.1 hd ht (fun z => absurd z (by first | exact h | exact Int32.not_le.mpr h | exact fun q => q h)) (fun _ => k ls hl)
theorem rn_zlt_t {x : Int32} {off : Int} {tgt : Nat} (hd : decode M.2.1 pc = .ok (.ifCond .lt off, 3)) (ht : (pc : Int) + off = (tgt : Int)) (h : x < 0) (k : Rn l G M d tgt lv st u o u') : Rn l G M d pc lv (.int x :: st) u o u' :=
  Rn.same k fun _ _ _ _ _ _ _ _ _ _ _ _ _ ls _ C hl _ _ k => lv_if_lt C.1 C.2.1 hd ht (fun _ => k ls hl) (fun z => absurd (by first | exact h | exact Int32.not_lt.mp h) z)
theorem rn_zlt_f {x : Int32} {off : Int} (tgt : Nat) (hd : decode M.2.1 pc = .ok (.ifCond .lt off, 3)) (ht : (pc : Int) + off = (tgt : Int)) (h : ¬ x < 0) (k : Rn l G M d (pc + 3) lv st u o u') : Rn l G M d pc lv (.int x :: st) u o u' :=
  Rn.same k fun _ _ _ _ _ _ _ _ _ _ _ _ _ ls _ C hl _ _ k => lv_if_lt C.1 C.2.1 hd ht (fun z => absurd z (by first | exact h | exact Int32.not_le.mpr h | exact fun q => q h)) (fun _ => k ls hl)
theorem rn_ige_t {x y : Int32} {off : Int} {tgt : Nat} (hd : decode M.2.1 pc = .ok (.if_icmp .ge off, 3)) (ht : (pc : Int) + off = (tgt : Int)) (h : ¬ x < y) (k : Rn l G M d tgt lv st u o u') : Rn l G M d pc lv (.int y :: .int x :: st) u o u' :=
  Rn.same k fun _ _ _ _ _ _ _ _ _ _ _ _ _ ls _ C hl _ _ k => lv_icmp_ge C.1 C.2.1 hd ht (fun _ => k ls hl) (fun z => absurd (by first | exact h | exact Int32.not_lt.mp h) z)
theorem rn_ige_f {x y : Int32} {off : Int} (tgt : Nat) (hd : decode M.2.1 pc = .ok (.if_icmp .ge off, 3)) (ht : (pc : Int) + off = (tgt : Int)) (h : x < y) (k : Rn l G M d (pc + 3) lv st u o u') : Rn l G M d pc lv (.int y :: .int x :: st) u o u' :=
  Rn.same k fun _ _ _ _ _ _ _ _ _ _ _ _ _ ls _ C hl _ _ k => lv_icmp_ge C.1 C.2.1 hd ht (fun z => absurd z (by first | exact h | exact Int32.not_le.mpr h | exact fun q => q h)) (fun _ => k ls hl)
theorem rn_zge_t {x : Int32} {off : Int} {tgt : Nat} (hd : decode M.2.1 pc = .ok (.ifCond .ge off, 3)) (ht : (pc : Int) + off = (tgt : Int)) (h : ¬ x < 0) (k : Rn l G M d tgt lv st u o u') : Rn l G M d pc lv (.int x :: st) u o u' :=
  Rn.same k fun _ _ _ _ _ _ _ _ _ _ _ _ _ ls _ C hl _ _ k => lv_if_ge C.1 C.2.1 hd ht (fun _ => k ls hl) (fun z => absurd (by first | exact h | exact Int32.not_lt.mp h) z)
theorem rn_zge_f {x : Int32} {off : Int} (tgt : Nat) (hd : decode M.2.1 pc = .ok (.ifCond .ge off, 3)) (ht : (pc : Int) + off = (tgt : Int)) (h : x < 0) (k : Rn l G M d (pc + 3) lv st u o u') : Rn l G M d pc lv (.int x :: st) u o u' :=
  Rn.same k fun _ _ _ _ _ _ _ _ _ _ _ _ _ ls _ C hl _ _ k => lv_if_ge C.1 C.2.1 hd ht (fun z => absurd z (by first | exact h | exact Int32.not_le.mpr h | exact fun q => q h)) (fun _ => k ls hl)
theorem rn_igt_t {x y : Int32} {off : Int} {tgt : Nat} (hd : decode M.2.1 pc = .ok (.if_icmp .gt off, 3)) (ht : (pc : Int) + off = (tgt : Int)) (h : y < x) (k : Rn l G M d tgt lv st u o u') : Rn l G M d pc lv (.int y :: .int x :: st) u o u' :=
  Rn.same k fun _ _ _ _ _ _ _ _ _ _ _ _ _ ls _ C hl _ _ k => lv_icmp_gt C.1 C.2.1 hd ht (fun _ => k ls hl) (fun z => absurd (by first | exact h | exact Int32.not_lt.mp h) z)
theorem rn_igt_f {x y : Int32} {off : Int} (tgt : Nat) (hd : decode M.2.1 pc = .ok (.if_icmp .gt off, 3)) (ht : (pc : Int) + off = (tgt : Int)) (h : ¬ y < x) (k : Rn l G M d (pc + 3) lv st u o u') : Rn l G M d pc lv (.int y :: .int x :: st) u o u' :=
  Rn.same k fun _ _ _ _ _ _ _ _ _ _ _ _ _ ls _ C hl _ _ k => lv_icmp_gt C.1 C.2.1 hd ht (fun z => absurd z (by first | exact h | exact Int32.not_le.mpr h | exact fun q => q h)) (fun _ => k ls hl)
theorem rn_zgt_t {x : Int32} {off : Int} {tgt : Nat} (hd : decode M.2.1 pc = .ok (.ifCond .gt off, 3)) (ht : (pc : Int) + off = (tgt : Int)) (h : 0 < x) (k : Rn l G M d tgt lv st u o u') : Rn l G M d pc lv (.int x :: st) u o u' :=
  Rn.same k fun _ _ _ _ _ _ _ _ _ _ _ _ _ ls _ C hl _ _ k => lv_if_gt C.1 C.2.1 hd ht (fun _ => k ls hl) (fun z => absurd (by first | exact h | exact Int32.not_lt.mp h) z)
theorem rn_zgt_f {x : Int32} {off : Int} (tgt : Nat) (hd : decode M.2.1 pc = .ok (.ifCond .gt off, 3)) (ht : (pc : Int) + off = (tgt : Int)) (h : ¬ 0 < x) (k : Rn l G M d (pc + 3) lv st u o u') : Rn l G M d pc lv (.int x :: st) u o u' :=
  Rn.same k fun _ _ _ _ _ _ _ _ _ _ _ _ _ ls _ C hl _ _ k => lv_if_gt C.1 C.2.1 hd ht (fun z => absurd z (by first | exact h | exact Int32.not_le.mpr h | exact fun q => q h)) (fun _ => k ls hl)
theorem rn_ile_t {x y : Int32} {off : Int} {tgt : Nat} (hd : decode M.2.1 pc = .ok (.if_icmp .le off, 3)) (ht : (pc : Int) + off = (tgt : Int)) (h : ¬ y < x) (k : Rn l G M d tgt lv st u o u') : Rn l G M d pc lv (.int y :: .int x :: st) u o u' :=
  Rn.same k fun _ _ _ _ _ _ _ _ _ _ _ _ _ ls _ C hl _ _ k => lv_icmp_le C.1 C.2.1 hd ht (fun _ => k ls hl) (fun z => absurd (by first | exact h | exact Int32.not_lt.mp h) z)
theorem rn_ile_f {x y : Int32} {off : Int} (tgt : Nat) (hd : decode M.2.1 pc = .ok (.if_icmp .le off, 3)) (ht : (pc : Int) + off = (tgt : Int)) (h : y < x) (k : Rn l G M d (pc + 3) lv st u o u') : Rn l G M d pc lv (.int y :: .int x :: st) u o u' :=
  Rn.same k fun _ _ _ _ _ _ _ _ _ _ _ _ _ ls _ C hl _ _ k => lv_icmp_le C.1 C.2.1 hd ht (fun z => absurd z (by first | exact h | exact Int32.not_le.mpr h | exact fun q => q h)) (fun _ => k ls hl)
theorem rn_zle_t {x : Int32} {off : Int} {tgt : Nat} (hd : decode M.2.1 pc = .ok (.ifCond .le off, 3)) (ht : (pc : Int) + off = (tgt : Int)) (h : ¬ 0 < x) (k : Rn l G M d tgt lv st u o u') : Rn l G M d pc lv (.int x :: st) u o u' :=
  Rn.same k fun _ _ _ _ _ _ _ _ _ _ _ _ _ ls _ C hl _ _ k => lv_if_le C.1 C.2.1 hd ht (fun _ => k ls hl) (fun z => absurd (by first | exact h | exact Int32.not_lt.mp h) z)
theorem rn_zle_f {x : Int32} {off : Int} (tgt : Nat) (hd : decode M.2.1 pc = .ok (.ifCond .le off, 3)) (ht : (pc : Int) + off = (tgt : Int)) (h : 0 < x) (k : Rn l G M d (pc + 3) lv st u o u') : Rn l G M d pc lv (.int x :: st) u o u' :=
  Rn.same k fun _ _ _ _ _ _ _ _ _ _ _ _ _ ls _ C hl _ _ k => lv_if_le C.1 C.2.1 hd ht (fun z => absurd z (by first | exact h | exact Int32.not_le.mpr h | exact fun q => q h)) (fun _ => k ls hl)
theorem rn_ifnull_t {off : Int} {tgt : Nat} {r : Option Nat} (hd : decode M.2.1 pc = .ok (.ifnull off, 3)) (ht : (pc : Int) + off = (tgt : Int)) (h : r = none) (k : Rn l G M d tgt lv st u o u') : Rn l G M d pc lv (rv r :: st) u o u' := by
  subst h
  exact Rn.same k fun _ _ _ _ _ _ _ _ _ _ _ _ _ ls _ C hl _ _ k => lv_ifnullN C.1 C.2.1 hd ht (k ls hl)
theorem rn_ifnull_f {off : Int} {r : Option Nat} (hd : decode M.2.1 pc = .ok (.ifnull off, 3)) (h : ¬ r = none) (k : Rn l G M d (pc + 3) lv st u o u') : Rn l G M d pc lv (rv r :: st) u o u' := by
  cases r with
  | none => exact absurd rfl h
  | some a => exact Rn.same k fun _ _ _ _ _ _ _ _ _ _ _ _ _ ls _ C hl _ _ k => lv_ifnull C.1 C.2.1 hd (k ls hl)
theorem rn_ifnonnull_t {off : Int} {tgt : Nat} {r : Option Nat} (hd : decode M.2.1 pc = .ok (.ifnonnull off, 3)) (ht : (pc : Int) + off = (tgt : Int)) (h : ¬ r = none) (k : Rn l G M d tgt lv st u o u') : Rn l G M d pc lv (rv r :: st) u o u' := by
  cases r with
  | none => exact absurd rfl h
  | some a => exact Rn.same k fun _ _ _ _ _ _ _ _ _ _ _ _ _ ls _ C hl _ _ k => lv_ifnonnull C.1 C.2.1 hd ht (k ls hl)
theorem rn_ifnonnull_f {off : Int} {r : Option Nat} (hd : decode M.2.1 pc = .ok (.ifnonnull off, 3)) (h : r = none) (k : Rn l G M d (pc + 3) lv st u o u') : Rn l G M d pc lv (rv r :: st) u o u' := by
  subst h
  exact Rn.same k fun _ _ _ _ _ _ _ _ _ _ _ _ _ ls _ C hl _ _ k => lv_ifnonnullN C.1 C.2.1 hd (k ls hl)
/-- a switch over 0 .. n: the place j of the table, or none -/
theorem rn_tsw_in {dflt hi : Int} {offs : Array Int} {len : Nat} {x : Int32} {off : Int} {tgt : Nat} (j : Int32) (hd : decode M.2.1 pc = .ok (.tableswitch dflt 0 hi offs, len)) (h : x = j) (hj : 0 ≤ j.toInt ∧ j.toInt ≤ hi ∧ offs[j.toInt.toNat]? = some off) (ht : (pc : Int) + off = (tgt : Int)) (k : Rn l G M d tgt lv st u o u') : Rn l G M d pc lv (.int x :: st) u o u' := by
  subst h
  exact Rn.same k fun _ _ _ _ _ _ _ _ _ _ _ _ _ ls _ C hl _ _ k => lv_tableIn C.1 C.2.1 hd (by omega) (by omega) (by rw [Int.sub_zero]; exact hj.2.2) ht (k ls hl)
theorem rn_tsw_out {dflt hi : Int} {offs : Array Int} {len : Nat} {x : Int32} {tgt : Nat} (hd : decode M.2.1 pc = .ok (.tableswitch dflt 0 hi offs, len)) (h : x.toInt < 0 ∨ hi < x.toInt) (ht : (pc : Int) + dflt = (tgt : Int)) (k : Rn l G M d tgt lv st u o u') : Rn l G M d pc lv (.int x :: st) u o u' :=
  Rn.same k fun _ _ _ _ _ _ _ _ _ _ _ _ _ ls _ C hl _ _ k => lv_tableOut C.1 C.2.1 hd h ht (k ls hl)
theorem rn_lsw {dflt : Int} {ps : Array (Int × Int)} {len : Nat} {x : Int32} {off : Int} {tgt : Nat} (hd : decode M.2.1 pc = .ok (.lookupswitch dflt ps, len)) (hp : (ps.toList.zip (ps.toList.drop 1)).all (fun (a, next) => a.1 < next.1) = true) (ho : Op.lookupswitch.offset ps.toList dflt x.toInt = off) (ht : (pc : Int) + off = (tgt : Int)) (k : Rn l G M d tgt lv st u o u') : Rn l G M d pc lv (.int x :: st) u o u' :=
  Rn.same k fun _ _ _ _ _ _ _ _ _ _ _ _ _ ls _ C hl _ _ k => lv_lookup C.1 C.2.1 hd hp ho ht (k ls hl)
theorem rn_ldc {index : Nat} {v : Int32} (hw : Cond.constant M.1.cls index v ∈ lw_g) (hd : decode M.2.1 pc = .ok (.ldc index, 2)) (k : Rn l G M d (pc + 2) lv (.int v :: st) u o u') : Rn l G M d pc lv st u o u' :=
  Rn.same k fun _ _ _ _ _ _ _ _ _ _ _ _ _ ls _ C hl _ _ k => lv_ldc C.1 C.2.1 C.own (C.hts _ (hw)) hd (k ls hl)
theorem rn_ldcw {index : Nat} {v : Int32} (hw : Cond.constant M.1.cls index v ∈ lw_g) (hd : decode M.2.1 pc = .ok (.ldc_w index, 3)) (k : Rn l G M d (pc + 3) lv (.int v :: st) u o u') : Rn l G M d pc lv st u o u' :=
  Rn.same k fun _ _ _ _ _ _ _ _ _ _ _ _ _ ls _ C hl _ _ k => lv_ldcw C.1 C.2.1 C.own (C.hts _ (hw)) hd (k ls hl)
theorem rn_ldc2 {index : Nat} {v : Int64} (hw : Cond.constantLong M.1.cls index v ∈ lw_g) (hd : decode M.2.1 pc = .ok (.ldc2_w index, 3)) (k : Rn l G M d (pc + 3) lv (.long v :: st) u o u') : Rn l G M d pc lv st u o u' :=
  Rn.same k fun _ _ _ _ _ _ _ _ _ _ _ _ _ ls _ C hl _ _ k => lv_ldc2 C.1 C.2.1 C.own (C.hts _ (hw)) hd (k ls hl)
theorem gr_ext (G : Gt) (i : Nat) : gr G (1000000 + i) = gX G i := by
  unfold gr
  rw [if_neg (Nat.not_lt.mpr (Nat.le_add_right _ _)), Nat.add_sub_cancel_left]
theorem rn_ldcR {index : Nat} (i : Nat) (hi : i < 10) (hc : M.1.cls = "ForeBook$RuleReader") (hx : stR.getD i 0 = index) (hd : decode M.2.1 pc = .ok (.ldc index, 2)) (k : Rn l G M d (pc + 2) lv (rv (some (1000000 + i)) :: st) u o u') : Rn l G M d pc lv st u o u' :=
  Rn.same k fun _ _ _ s _ _ _ _ _ _ _ _ _ ls _ C hl _ _ k => by
    have h1 := (C.wd.2.2.1.1.2.1 i hi).1
    rw [hx] at h1
    have k1 := k ls hl
    rw [List.map_cons, show gv G (rv (some (1000000 + i))) = .ref (gX G i) by show Value.ref _ = _; rw [gr_ext]] at k1
    exact va_ldcS C.1 C.2.1 (hc ▸ C.own) h1 hd k1
theorem rn_ldcM {index : Nat} (i : Nat) (hi : i < 10) (hc : M.1.cls = "ForeBookModel") (hx : stM.getD i 0 = index) (hd : decode M.2.1 pc = .ok (.ldc index, 2)) (k : Rn l G M d (pc + 2) lv (rv (some (1000000 + i)) :: st) u o u') : Rn l G M d pc lv st u o u' :=
  Rn.same k fun _ _ _ s _ _ _ _ _ _ _ _ _ ls _ C hl _ _ k => by
    have h1 := (C.wd.2.2.1.1.2.1 i hi).2
    rw [hx] at h1
    have k1 := k ls hl
    rw [List.map_cons, show gv G (rv (some (1000000 + i))) = .ref (gX G i) by show Value.ref _ = _; rw [gr_ext]] at k1
    exact va_ldcS C.1 C.2.1 (hc ▸ C.own) h1 hd k1
end RN2
