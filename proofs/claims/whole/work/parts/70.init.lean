/-! the start: what the constructors leave -/
def iC : Option Mem := fX10_init 0 (sN u0)
def vC : Mem := iC.getD u0
theorem iC_ok : iC = some vC := by
  have h : iC.isSome = true := by decide +kernel
  unfold vC
  cases hx : iC with
  | none => rw [hx] at h; cases h
  | some v => rfl
def iM : Option Mem := fX12_init 55 (sN vC)
def vM : Mem := iM.getD u0
theorem iM_ok : iM = some vM := by
  have h : iM.isSome = true := by decide +kernel
  unfold vM
  cases hx : iM with
  | none => rw [hx] at h; cases h
  | some v => rfl
theorem vC_n : mN vC = 55 := by decide +kernel
theorem vM_n : mN vM = 88 := by decide +kernel
theorem vM_q : ∀ q, q < 20 → mR vM 11 q = some (14 + q) := by decide +kernel
theorem vM_t : ∀ t, t ∈ RTab → mR vM t.1 t.2.1 = some t.2.2 := by decide +kernel
theorem vM_S : SH vM := ⟨by rw [vM_n]; omega, vM_q, vM_t⟩
def C0 : Sp := fun a k => (mI vM a k).toInt
theorem C0_J (a k : Nat) : mI vM a k = J (C0 a k) := (j_self _).symm
theorem C0_q : C0 55 25 = 0 := by decide +kernel
theorem C0_g : C0 55 26 = 0 := by decide +kernel
theorem C0_r : ∀ t, t < 11 → 0 ≤ C0 56 t ∧ C0 56 t ≤ 1000 ∧ 0 ≤ C0 57 t ∧ C0 57 t ≤ 1000 := by decide +kernel
theorem C0_s : C0 55 0 = 0 ∧ C0 55 1 = 0 ∧ C0 55 2 = -1 ∧ C0 55 3 = -1 ∧ C0 55 4 = 1 := by decide +kernel
theorem C0_ok : OkC C0 := by
  have hq : nQ C0 = 0 := by show (C0 55 25).toNat = 0; rw [C0_q]; rfl
  have hg : nG C0 = 0 := by show (C0 55 26).toNat = 0; rw [C0_g]; rfl
  obtain ⟨s0, s1, s2, s3, s4⟩ := C0_s
  refine ⟨by rw [C0_q]; omega, by rw [C0_g]; omega, fun q h => by omega, fun q h => by omega, fun i j _ h => by omega, C0_r, Or.inl s0, Or.inl s1, Or.inl ⟨s2, s3⟩, by rw [s4]; omega⟩
theorem C0_d : C0 55 16 = 0 ∧ C0 55 22 = 0 ∧ C0 55 23 = -1 ∧ C0 55 27 = 0 := by decide +kernel
theorem C0_61 : ∀ k, k < 500 → -128 ≤ C0 61 k ∧ C0 61 k ≤ 127 := by decide +kernel
theorem C0_84 : ∀ k, k < 20 → C0 84 k = -1 := by decide +kernel
theorem D0_ok : OkD C0 C0 := by
  obtain ⟨d0, d1, d2, d3⟩ := C0_d
  have ht : nT C0 = 0 := by show (C0 55 27).toNat = 0; rw [d3]; rfl
  refine ⟨by rw [d0]; omega, fun k => ⟨fun h => (C0_61 k h).1, fun h => (C0_61 k h).2⟩, by rw [d1]; omega, by rw [d2]; omega, by rw [d3]; omega, fun k h => by omega, fun q => ⟨fun h => by rw [C0_84 q h]; omega, fun h => by rw [C0_84 q h]; omega, fun _ h => C0_84 q h⟩⟩
theorem e_a : mI vM 1 1 = mI vM 55 16 ∧ mI vM 3 1 = mI vM 55 22 ∧ mI vM 3 2 = mI vM 55 23 ∧ mI vM 7 2 = mI vM 55 0 ∧ mI vM 7 3 = mI vM 55 1 ∧ mI vM 7 4 = mI vM 55 2 ∧ mI vM 7 5 = mI vM 55 3 ∧ mI vM 7 6 = mI vM 55 4 ∧ mI vM 10 3 = mI vM 55 25 ∧ mI vM 10 4 = mI vM 55 26 ∧ mI vM 45 3 = mI vM 55 27 := by decide +kernel
theorem e_b : ∀ k, k < 500 → mI vM 2 k = mI vM 61 k := by decide +kernel
theorem e_c : ∀ k, k < 11 → mI vM 8 k = mI vM 56 k ∧ mI vM 9 k = mI vM 57 k := by decide +kernel
theorem e_d : ∀ k, k < 30 → mI vM 46 k = mI vM 71 k ∧ mI vM 47 k = mI vM 72 k ∧ mI vM 48 k = mI vM 73 k := by decide +kernel
theorem e_e : ∀ k, k < 20 → mI vM 50 k = mI vM 84 k := by decide +kernel
theorem e_f : ∀ q, q < 20 → mI vM (14 + q) 2 = J 3 ∧ mI vM (14 + q) 3 = J (-1) ∧ mI vM (14 + q) 4 = J 0 := by decide +kernel
theorem e_g : ∀ k, k < 400 → mR vM 12 k = none := by decide +kernel
theorem e_h : mI vM 10 5 = J 0 ∧ mI vM 34 6 = J (-1) ∧ mI vM 39 10 = J (-1) := by decide +kernel
theorem Inv_0 : Inv C0 C0 0 vM := by
  have hq : nQ C0 = 0 := by show (C0 55 25).toNat = 0; rw [C0_q]; rfl
  have hg : nG C0 = 0 := by show (C0 55 26).toNat = 0; rw [C0_g]; rfl
  obtain ⟨a1, a2, a3, a4, a5, a6, a7, a8, a9, a10, a11⟩ := e_a
  refine ⟨vM_S, C0_ok, D0_ok, ⟨fun a k _ => C0_J a k, fun a k _ => C0_J a k⟩, ⟨a1.trans (C0_J _ _), fun k hk => (e_b k hk).trans (C0_J _ _), a2.trans (C0_J _ _), a3.trans (C0_J _ _), a4.trans (C0_J _ _), a5.trans (C0_J _ _), a6.trans (C0_J _ _), a7.trans (C0_J _ _), a8.trans (C0_J _ _), fun k hk => (e_c k hk).1.trans (C0_J _ _), fun k hk => (e_c k hk).2.trans (C0_J _ _), a9.trans (C0_J _ _), a10.trans (C0_J _ _), a11.trans (C0_J _ _), fun k hk => ⟨(e_d k hk).1.trans (C0_J _ _), (e_d k hk).2.1.trans (C0_J _ _), (e_d k hk).2.2.trans (C0_J _ _)⟩, fun k hk => (e_e k hk).trans (C0_J _ _)⟩, ⟨fun q h => by omega, fun q _ h => e_f q h⟩, ⟨by rw [vM_n, hg], fun i h => by omega, fun g q h1 h2 => ?_, [], ?_, List.Pairwise.nil, fun p i h => by simp at h⟩, 0, -1, -1, e_h.1, e_h.2.1, e_h.2.2, Int.le_refl _, by omega, by omega, by omega, by omega, by omega, fun h => by omega, fun h => by omega⟩
  · rw [e_g _ (by omega), hg]; rfl
  · rw [hg]; exact List.Perm.refl _
