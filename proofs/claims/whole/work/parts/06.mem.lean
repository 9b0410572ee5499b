/-! THE PURE MEMORY: ints, longs, references by cell and place; how many cells there are -/
abbrev Mem : Type := (Nat → Nat → Int32) × (Nat → Nat → Int64) × (Nat → Nat → Option Nat) × Nat
def mI (u : Mem) (a k : Nat) : Int32 := u.1 a k
def mL (u : Mem) (a k : Nat) : Int64 := u.2.1 a k
def mR (u : Mem) (a k : Nat) : Option Nat := u.2.2.1 a k
def mN (u : Mem) : Nat := u.2.2.2
def sI (u : Mem) (a k : Nat) (v : Int32) : Mem := (fun b j => if b = a ∧ j = k then v else u.1 b j, u.2.1, u.2.2.1, u.2.2.2)
def sL (u : Mem) (a k : Nat) (v : Int64) : Mem := (u.1, fun b j => if b = a ∧ j = k then v else u.2.1 b j, u.2.2.1, u.2.2.2)
def sR (u : Mem) (a k : Nat) (v : Option Nat) : Mem := (u.1, u.2.1, fun b j => if b = a ∧ j = k then v else u.2.2.1 b j, u.2.2.2)
def sN (u : Mem) : Mem := (fun b j => if b = u.2.2.2 then 0 else u.1 b j, fun b j => if b = u.2.2.2 then 0 else u.2.1 b j, fun b j => if b = u.2.2.2 then none else u.2.2.1 b j, u.2.2.2 + 1)
theorem mI_sI (u : Mem) (a k : Nat) (v : Int32) (b j : Nat) : mI (sI u a k v) b j = if b = a ∧ j = k then v else mI u b j := rfl
theorem mI_sL (u : Mem) (a k : Nat) (v : Int64) (b j : Nat) : mI (sL u a k v) b j = mI u b j := rfl
theorem mI_sR (u : Mem) (a k : Nat) (v : Option Nat) (b j : Nat) : mI (sR u a k v) b j = mI u b j := rfl
theorem mI_sN (u : Mem) (b j : Nat) : mI (sN u) b j = if b = mN u then 0 else mI u b j := rfl
theorem mL_sI (u : Mem) (a k : Nat) (v : Int32) (b j : Nat) : mL (sI u a k v) b j = mL u b j := rfl
theorem mL_sL (u : Mem) (a k : Nat) (v : Int64) (b j : Nat) : mL (sL u a k v) b j = if b = a ∧ j = k then v else mL u b j := rfl
theorem mL_sR (u : Mem) (a k : Nat) (v : Option Nat) (b j : Nat) : mL (sR u a k v) b j = mL u b j := rfl
theorem mL_sN (u : Mem) (b j : Nat) : mL (sN u) b j = if b = mN u then 0 else mL u b j := rfl
theorem mR_sI (u : Mem) (a k : Nat) (v : Int32) (b j : Nat) : mR (sI u a k v) b j = mR u b j := rfl
theorem mR_sL (u : Mem) (a k : Nat) (v : Int64) (b j : Nat) : mR (sL u a k v) b j = mR u b j := rfl
theorem mR_sR (u : Mem) (a k : Nat) (v : Option Nat) (b j : Nat) : mR (sR u a k v) b j = if b = a ∧ j = k then v else mR u b j := rfl
theorem mR_sN (u : Mem) (b j : Nat) : mR (sN u) b j = if b = mN u then none else mR u b j := rfl
theorem mN_sI (u : Mem) (a k : Nat) (v : Int32) : mN (sI u a k v) = mN u := rfl
theorem mN_sL (u : Mem) (a k : Nat) (v : Int64) : mN (sL u a k v) = mN u := rfl
theorem mN_sR (u : Mem) (a k : Nat) (v : Option Nat) : mN (sR u a k v) = mN u := rfl
theorem mN_sN (u : Mem) : mN (sN u) = mN u + 1 := rfl
/-- the cell is there, and of that class or array code -/
def okc (u : Mem) (a c : Nat) : Bool := decide (a < mN u) && ((KF a).1 == c)
def inb (i : Int32) (n : Nat) : Bool := decide (0 ≤ i.toInt) && decide (i.toInt < (n : Int))
def gfI (u : Mem) (r : Option Nat) (c k : Nat) : Option Int32 := r.bind fun a => if okc u a c then some (mI u a k) else none
def gfR (u : Mem) (r : Option Nat) (c k : Nat) : Option (Option Nat) := r.bind fun a => if okc u a c then some (mR u a k) else none
def pfI (u : Mem) (r : Option Nat) (c k : Nat) (v : Int32) : Option Mem := r.bind fun a => if okc u a c then some (sI u a k v) else none
def pfR (u : Mem) (r : Option Nat) (c k : Nat) (v : Option Nat) : Option Mem := r.bind fun a => if okc u a c then some (sR u a k v) else none
def alI (u : Mem) (r : Option Nat) (c : Nat) (i : Int32) : Option Int32 := r.bind fun a => if okc u a c && inb i (KF a).2 then some (mI u a i.toNatClampNeg) else none
def alL (u : Mem) (r : Option Nat) (c : Nat) (i : Int32) : Option Int64 := r.bind fun a => if okc u a c && inb i (KF a).2 then some (mL u a i.toNatClampNeg) else none
def alR (u : Mem) (r : Option Nat) (c : Nat) (i : Int32) : Option (Option Nat) := r.bind fun a => if okc u a c && inb i (KF a).2 then some (mR u a i.toNatClampNeg) else none
def asI (u : Mem) (r : Option Nat) (c : Nat) (i v : Int32) : Option Mem := r.bind fun a => if okc u a c && inb i (KF a).2 then some (sI u a i.toNatClampNeg v) else none
def asL (u : Mem) (r : Option Nat) (c : Nat) (i : Int32) (v : Int64) : Option Mem := r.bind fun a => if okc u a c && inb i (KF a).2 then some (sL u a i.toNatClampNeg v) else none
/-- the element's own kind e (a class), or null -/
def asR (u : Mem) (r : Option Nat) (c e : Nat) (i : Int32) (v : Option Nat) : Option Mem := r.bind fun a => if okc u a c && inb i (KF a).2 && (match v with | none => true | some b => okc u b e) then some (sR u a i.toNatClampNeg v) else none
def aln (u : Mem) (r : Option Nat) (c : Nat) : Option Int32 := r.bind fun a => if okc u a c then some (Int32.ofNat (KF a).2) else none
/-- a new cell of a class or array code c with n places -/
def nwc (u : Mem) (c n : Nat) : Option (Nat × Mem) := if decide (mN u < 1000000) && ((KF (mN u)) == (c, n)) then some (mN u, sN u) else none
theorem bnd_some {α β : Type} {r : Option α} {f : α → Option β} {y : β} (h : r.bind f = some y) : ∃ a, r = some a ∧ f a = some y := Option.bind_eq_some_iff.mp h
theorem ite_some {α : Type} {b : Bool} {x y : α} (h : (if b = true then some x else none) = some y) : b = true ∧ x = y := by
  by_cases hb : b = true
  · rw [if_pos hb] at h; exact ⟨hb, Option.some.inj h⟩
  · rw [if_neg hb] at h; cases h
theorem okc_spec {u : Mem} {a c : Nat} (h : okc u a c = true) : a < mN u ∧ (KF a).1 = c := by
  unfold okc at h
  rw [Bool.and_eq_true] at h
  exact ⟨of_decide_eq_true h.1, eq_of_beq h.2⟩
theorem inb_spec {i : Int32} {n : Nat} (h : inb i n = true) : vp_in i n := by
  unfold inb at h
  rw [Bool.and_eq_true] at h
  exact vp_in_iff.mpr ⟨of_decide_eq_true h.1, of_decide_eq_true h.2⟩
/-! THE LINK TO THE HEAP: classes, array classes, base, outer addresses, the script -/
abbrev Gt : Type := va_G × (Nat → ClassId) × Nat × (Nat → Nat) × (Nat → Nat) × Nat × (Nat → Int32)
def gC (G : Gt) : Nat → ClassId := G.1.1
def gI (G : Gt) : Nat → Nat → Nat := G.1.2
def gAc (G : Gt) : Nat → ClassId := G.2.1
def gB (G : Gt) : Nat := G.2.2.1
def gX (G : Gt) : Nat → Nat := G.2.2.2.1
def gV (G : Gt) : Nat → Nat := G.2.2.2.2.1
def gLn (G : Gt) : Nat := G.2.2.2.2.2.1
def gXs (G : Gt) : Nat → Int32 := G.2.2.2.2.2.2
/-- the address of a name: names from 1000000 on lie outside -/
def gr (G : Gt) (a : Nat) : Nat := if a < 1000000 then gB G + a else gX G (a - 1000000)
def gv (G : Gt) (v : Value) : Value := match v with
  | .ref a => .ref (gr G a)
  | w => w
def gq (G : Gt) (q : Nat × Value) : Nat × Value := (q.1, gv G q.2)
def rv (r : Option Nat) : Value := match r with
  | none => .null
  | some a => .ref a
theorem gv_rv (G : Gt) (r : Option Nat) : gv G (rv r) = va_rf (r.map (gr G)) := by cases r <;> rfl
theorem gv_cat (G : Gt) (v : Value) : (gv G v).category = v.category := by cases v <;> rfl
def fvO (ty : FieldType) (i : Int32) (r : Option Nat) : Value := match ty with
  | .object _ => va_rf r
  | .array _ => va_rf r
  | _ => .int i
def fv (G : Gt) (u : Mem) (ci a k : Nat) : Value := fvO (FTy ci k) (mI u a k) ((mR u a k).map (gr G))
def arV (G : Gt) (u : Mem) (code a i : Nat) : Value := match code with
  | 20 => .int (mI u a i)
  | 21 => .int (mI u a i)
  | 22 => .int (mI u a i)
  | 23 => .long (mL u a i)
  | _ => va_rf ((mR u a i).map (gr G))
def cellAt (G : Gt) (u : Mem) (a : Nat) (H : Heap) : Prop :=
  if (KF a).1 < 20 then t_OB (gB G + a) (gC G (KF a).1) (KF a).2 (gI G (KF a).1) H (fv G u (KF a).1 a)
  else H[gB G + a]? = some (arrV (gAc G (KF a).1) (KF a).2 (arV G u (KF a).1 a))
def MemAt (G : Gt) (u : Mem) (H : Heap) : Prop := H.size = gB G + mN u ∧ mN u ≤ 1000000 ∧ ∀ a : Nat, a < mN u → cellAt G u a H
theorem MemAt.adr {G : Gt} {u : Mem} {H : Heap} (h : MemAt G u H) {a : Nat} (ha : a < mN u) : gr G a = gB G + a := if_pos (Nat.lt_of_lt_of_le ha h.2.1)
theorem MemAt.obj {G : Gt} {u : Mem} {H : Heap} (h : MemAt G u H) {a c : Nat} (ha : a < mN u) (hc : (KF a).1 = c) (hl : c < 20) : t_OB (gr G a) (gC G c) (KF a).2 (gI G c) H (fv G u c a) := by
  have h1 := h.2.2 a ha
  unfold cellAt at h1
  subst hc
  rw [if_pos hl] at h1
  rw [h.adr ha]
  exact h1
theorem MemAt.arr {G : Gt} {u : Mem} {H : Heap} (h : MemAt G u H) {a c : Nat} (ha : a < mN u) (hc : (KF a).1 = c) (hl : ¬ c < 20) : H[gr G a]? = some (arrV (gAc G c) (KF a).2 (arV G u c a)) := by
  have h1 := h.2.2 a ha
  unfold cellAt at h1
  subst hc
  rw [if_neg hl] at h1
  rw [h.adr ha]
  exact h1
theorem fv_congr {G : Gt} {u u1 : Mem} {ci b : Nat} (hi : ∀ k, mI u1 b k = mI u b k) (hr : ∀ k, mR u1 b k = mR u b k) : fv G u1 ci b = fv G u ci b := by
  funext k
  simp only [fv, hi, hr]
theorem arV_congr {G : Gt} {u u1 : Mem} {c b : Nat} (hi : ∀ k, mI u1 b k = mI u b k) (hl : ∀ k, mL u1 b k = mL u b k) (hr : ∀ k, mR u1 b k = mR u b k) : arV G u1 c b = arV G u c b := by
  funext k
  simp only [arV, hi, hl, hr]
theorem cellAt_congr {G : Gt} {u u1 : Mem} {b : Nat} {H H1 : Heap} (hi : ∀ k, mI u1 b k = mI u b k) (hl : ∀ k, mL u1 b k = mL u b k) (hr : ∀ k, mR u1 b k = mR u b k) (hH : H1[gB G + b]? = H[gB G + b]?) (h : cellAt G u b H) : cellAt G u1 b H1 := by
  unfold cellAt at h ⊢
  by_cases hc : (KF b).1 < 20
  · rw [if_pos hc] at h ⊢
    rw [fv_congr hi hr]
    exact h.kept hH
  · rw [if_neg hc] at h ⊢
    rw [arV_congr hi hl hr, hH]
    exact h
/-- one cell is written -/
theorem MemAt.set {G : Gt} {u u1 : Mem} {H H1 : Heap} {a : Nat} (h : MemAt G u H) (hn : mN u1 = mN u) (hz : H1.size = H.size) (ho : ∀ q : Nat, q ≠ gr G a → H1[q]? = H[q]?) (ha : a < mN u) (hc : cellAt G u1 a H1)
    (hb : ∀ b, b ≠ a → (∀ k, mI u1 b k = mI u b k) ∧ (∀ k, mL u1 b k = mL u b k) ∧ ∀ k, mR u1 b k = mR u b k) : MemAt G u1 H1 := by
  refine ⟨by rw [hz, hn]; exact h.1, by rw [hn]; exact h.2.1, fun b hb' => ?_⟩
  rw [hn] at hb'
  by_cases hba : b = a
  · subst hba; exact hc
  · obtain ⟨h1, h2, h3⟩ := hb b hba
    refine cellAt_congr h1 h2 h3 (ho _ ?_) (h.2.2 b hb')
    rw [h.adr ha]
    omega
/-- a cell comes -/
theorem MemAt.new {G : Gt} {u : Mem} {H H1 : Heap} (h : MemAt G u H) (hl : mN u < 1000000) (hz : H1.size = H.size + 1) (ho : ∀ q : Nat, q < H.size → H1[q]? = H[q]?) (hc : cellAt G (sN u) (mN u) H1) : MemAt G (sN u) H1 := by
  refine ⟨by rw [hz, h.1, mN_sN]; omega, by rw [mN_sN]; omega, fun b hb => ?_⟩
  rw [mN_sN] at hb
  by_cases hba : b = mN u
  · subst hba; exact hc
  · refine cellAt_congr (fun k => ?_) (fun k => ?_) (fun k => ?_) (ho _ ?_) (h.2.2 b (by omega))
    · rw [mI_sN, if_neg hba]
    · rw [mL_sN, if_neg hba]
    · rw [mR_sN, if_neg hba]
    · rw [h.1]; omega
