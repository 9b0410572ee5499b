/-! the constructors behind ForeBookModel$Stop() -/
def yE1 : MethodName := ⟨"java/lang/Exception", "<init>", "(Ljava/lang/String;Ljava/lang/Throwable;ZZ)V"⟩
abbrev cE1 : ByteArray := prog_15_method_5_code
abbrev iE1 : MI := (yE1, cE1, 5, none)
theorem dE1_0 : decode cE1 0 = .ok (.aload_n 0, 1) := by decide +kernel
theorem dE1_1 : decode cE1 1 = .ok (.aload_n 1, 1) := by decide +kernel
theorem dE1_2 : decode cE1 2 = .ok (.aload_n 2, 1) := by decide +kernel
theorem dE1_3 : decode cE1 3 = .ok (.iload_n 3, 1) := by decide +kernel
theorem dE1_4 : decode cE1 4 = .ok (.iload 4, 2) := by decide +kernel
theorem dE1_6 : decode cE1 6 = .ok (.invokespecial 16, 3) := by decide +kernel
theorem dE1_9 : decode cE1 9 = .ok (.return_, 1) := by decide +kernel
def yE2 : MethodName := ⟨"java/lang/Throwable", "<init>", "(Ljava/lang/String;Ljava/lang/Throwable;ZZ)V"⟩
abbrev cE2 : ByteArray := prog_22_method_5_code
abbrev iE2 : MI := (yE2, cE2, 5, none)
theorem dE2_0 : decode cE2 0 = .ok (.aload_n 0, 1) := by decide +kernel
theorem dE2_1 : decode cE2 1 = .ok (.invokespecial 1, 3) := by decide +kernel
theorem dE2_4 : decode cE2 4 = .ok (.aload_n 0, 1) := by decide +kernel
theorem dE2_5 : decode cE2 5 = .ok (.aload_n 0, 1) := by decide +kernel
theorem dE2_6 : decode cE2 6 = .ok (.putfield 7, 3) := by decide +kernel
theorem dE2_9 : decode cE2 9 = .ok (.aload_n 0, 1) := by decide +kernel
theorem dE2_10 : decode cE2 10 = .ok (.getstatic 13, 3) := by decide +kernel
theorem dE2_13 : decode cE2 13 = .ok (.putfield 17, 3) := by decide +kernel
theorem dE2_16 : decode cE2 16 = .ok (.aload_n 0, 1) := by decide +kernel
theorem dE2_17 : decode cE2 17 = .ok (.getstatic 20, 3) := by decide +kernel
theorem dE2_20 : decode cE2 20 = .ok (.putfield 24, 3) := by decide +kernel
theorem dE2_23 : decode cE2 23 = .ok (.iload 4, 2) := by decide +kernel
theorem dE2_25 : decode cE2 25 = .ok (.ifCond .eq 11, 3) := by decide +kernel
theorem dE2_36 : decode cE2 36 = .ok (.aload_n 0, 1) := by decide +kernel
theorem dE2_37 : decode cE2 37 = .ok (.aconst_null, 1) := by decide +kernel
theorem dE2_38 : decode cE2 38 = .ok (.putfield 17, 3) := by decide +kernel
theorem dE2_41 : decode cE2 41 = .ok (.aload_n 0, 1) := by decide +kernel
theorem dE2_42 : decode cE2 42 = .ok (.aload_n 1, 1) := by decide +kernel
theorem dE2_43 : decode cE2 43 = .ok (.putfield 31, 3) := by decide +kernel
theorem dE2_46 : decode cE2 46 = .ok (.aload_n 0, 1) := by decide +kernel
theorem dE2_47 : decode cE2 47 = .ok (.aload_n 2, 1) := by decide +kernel
theorem dE2_48 : decode cE2 48 = .ok (.putfield 7, 3) := by decide +kernel
theorem dE2_51 : decode cE2 51 = .ok (.iload_n 3, 1) := by decide +kernel
theorem dE2_52 : decode cE2 52 = .ok (.ifCond .ne 8, 3) := by decide +kernel
theorem dE2_55 : decode cE2 55 = .ok (.aload_n 0, 1) := by decide +kernel
theorem dE2_56 : decode cE2 56 = .ok (.aconst_null, 1) := by decide +kernel
theorem dE2_57 : decode cE2 57 = .ok (.putfield 24, 3) := by decide +kernel
theorem dE2_60 : decode cE2 60 = .ok (.return_, 1) := by decide +kernel
def thr (u : Mem) (t : Nat) : Mem := sR (sR (sR (sR u t 0 none) t 1 none) t 2 none) t 3 none
theorem thr_eq (u : Mem) (t : Nat) (a b c : Option Nat) : sR (sR (sR (sR (sR (sR (sR u t 0 a) t 1 b) t 2 c) t 1 none) t 3 none) t 0 none) t 2 none = thr u t := by
  unfold thr sR
  refine Prod.ext rfl (Prod.ext rfl (Prod.ext ?_ rfl))
  funext x j
  dsimp only
  by_cases h : x = t
  · subst h
    simp only [true_and]
    repeat' split
    all_goals first | rfl | omega
  · simp only [h, false_and, if_false]
theorem pfR_ok {u : Mem} {t c k : Nat} {v : Option Nat} (h : okc u t c = true) : pfR u (some t) c k v = some (sR u t k v) := by
  show (if okc u t c = true then some _ else none) = _
  rw [if_pos h]
section STP
variable {l : Launch} {G : Gt} {d t0 : Nat} {u : Mem}
theorem eE2 (h : okc u t0 11 = true) : Ex l G iE2 (d + 1) [rv (some t0), rv none, rv none, .int 0, .int 0] u (.returned none) (thr u t0) := Ex.of (by decide +kernel) (by decide) (Nat.le_of_ble_eq_true rfl) rfl (by
  refine rn_aload_n (pc := 0) 0 dE2_0 rfl rfl ?_
  refine rn_objInit (pc := 1) (by omega) tw_961 tw_97 tw_98 (by decide) dE2_1 ?_
  refine rn_aload_n (pc := 4) 0 dE2_4 rfl rfl ?_
  refine rn_aload_n (pc := 5) 0 dE2_5 rfl rfl ?_
  refine rn_putR (pc := 6) (k := 0) okX11 (by decide) tw_982 (Or.inl rfl) rfl dE2_6 (pfR_ok h) ?_
  refine rn_aload_n (pc := 9) 0 dE2_9 rfl rfl ?_
  refine rn_getsE1 (pc := 10) tw_962 dE2_10 ?_
  refine rn_putR (pc := 13) (k := 1) okX11 (by decide) tw_983 (Or.inl rfl) rfl dE2_13 (pfR_ok h) ?_
  refine rn_aload_n (pc := 16) 0 dE2_16 rfl rfl ?_
  refine rn_getsE2 (pc := 17) tw_963 dE2_17 ?_
  refine rn_putR (pc := 20) (k := 2) okX11 (by decide) tw_984 (Or.inl rfl) rfl dE2_20 (pfR_ok h) ?_
  refine rn_iload (pc := 23) 4 dE2_23 rfl ?_
  refine rn_zeq_t (pc := 25) (tgt := 36) dE2_25 (by decide) rfl ?_
  refine rn_aload_n (pc := 36) 0 dE2_36 rfl rfl ?_
  refine rn_null (pc := 37) dE2_37 ?_
  refine rn_putR (pc := 38) (k := 1) okX11 (by decide) tw_983 (Or.inl rfl) rfl dE2_38 (pfR_ok h) ?_
  refine rn_aload_n (pc := 41) 0 dE2_41 rfl rfl ?_
  refine rn_aload_n (pc := 42) 1 (r := none) dE2_42 rfl rfl ?_
  refine rn_putR (pc := 43) (k := 3) okX11 (by decide) tw_981 (Or.inl rfl) rfl dE2_43 (pfR_ok h) ?_
  refine rn_aload_n (pc := 46) 0 dE2_46 rfl rfl ?_
  refine rn_aload_n (pc := 47) 2 (r := none) dE2_47 rfl rfl ?_
  refine rn_putR (pc := 48) (k := 0) okX11 (by decide) tw_982 (Or.inl rfl) rfl dE2_48 (pfR_ok h) ?_
  refine rn_iload_n (pc := 51) 3 dE2_51 rfl rfl ?_
  refine rn_zne_f (pc := 52) 60 dE2_52 (by decide) rfl ?_
  refine rn_aload_n (pc := 55) 0 dE2_55 rfl rfl ?_
  refine rn_null (pc := 56) dE2_56 ?_
  refine rn_putR (pc := 57) (k := 2) okX11 (by decide) tw_984 (Or.inl rfl) rfl dE2_57 (pfR_ok h) ?_
  rw [thr_eq]
  exact rn_vret (pc := 60) rfl dE2_60)
theorem eE1 (h : okc u t0 11 = true) : Ex l G iE1 (d + 2) [rv (some t0), rv none, rv none, .int 0, .int 0] u (.returned none) (thr u t0) := Ex.of (by decide +kernel) (by decide) (Nat.le_of_ble_eq_true rfl) rfl (by
  refine rn_aload_n (pc := 0) 0 dE1_0 rfl rfl ?_
  refine rn_aload_n (pc := 1) 1 (r := none) dE1_1 rfl rfl ?_
  refine rn_aload_n (pc := 2) 2 (r := none) dE1_2 rfl rfl ?_
  refine rn_iload_n (pc := 3) 3 dE1_3 rfl rfl ?_
  refine rn_iload (pc := 4) 4 dE1_4 rfl ?_
  refine rn_callI (pc := 6) (n := 4) (As := [rv none, rv none, .int 0, .int 0]) (rest := []) (eE2 (d := d) h) (by omega) rfl tw_980 tw_80 tw_978 tw_979 rfl (by decide +kernel) rfl (Nat.le_of_ble_eq_true rfl) dE1_6 rfl ?_
  exact rn_vret (pc := 9) rfl dE1_9)
end STP
abbrev iX11_init : MI := (yX11_init, cX11_init, 1, none)
def fX11_init (t0 : Nat) (u : Mem) : Option Mem := if okc u t0 11 = true then some (thr u t0) else none
theorem eX11_init {l : Launch} {G : Gt} {d : Nat} {t0 : Nat} {u y : Mem} (h : fX11_init t0 u = some y) : Ex l G iX11_init (d + 3) [rv (some t0)] u (.returned none) y := by
  unfold fX11_init at h
  obtain ⟨h1, rfl⟩ := ite_some h
  exact Ex.of (by decide +kernel) (by decide) (Nat.le_of_ble_eq_true rfl) rfl (by
    refine rn_aload_n (pc := 0) 0 dX11_init_0 rfl rfl ?_
    refine rn_null (pc := 1) dX11_init_1 ?_
    refine rn_null (pc := 2) dX11_init_2 ?_
    refine rn_iconst (pc := 3) (v := 0) dX11_init_3 (by decide) ?_
    refine rn_iconst (pc := 4) (v := 0) dX11_init_4 (by decide) ?_
    refine rn_callI (pc := 5) (n := 4) (As := [rv none, rv none, .int 0, .int 0]) (rest := []) (eE1 (d := d) h1) (by omega) rfl tw_977 tw_81 tw_975 tw_976 rfl (by decide +kernel) rfl (Nat.le_of_ble_eq_true rfl) dX11_init_5 rfl ?_
    exact rn_vret (pc := 8) rfl dX11_init_8)
