/-! THE SHAPE of memory: which references the fixed cells hold; a row a read or write -/
def RTab : List (Nat × Nat × Nat) := [(0, 0, 1), (0, 1, 3), (0, 2, 7), (0, 3, 10), (0, 4, 34), (0, 5, 39), (0, 6, 45), (0, 7, 49), (1, 0, 2), (3, 0, 4), (3, 3, 1), (4, 0, 5), (4, 1, 6), (7, 0, 8), (7, 1, 9), (10, 0, 11), (10, 1, 12), (10, 2, 13), (34, 0, 35), (34, 1, 36), (34, 2, 10), (34, 3, 7), (34, 4, 37), (34, 5, 38), (39, 2, 10), (39, 3, 7), (39, 4, 34), (39, 5, 40), (39, 6, 41), (39, 7, 42), (39, 8, 43), (39, 9, 44), (45, 0, 46), (45, 1, 47), (45, 2, 48), (45, 4, 10), (49, 0, 50), (49, 1, 10), (49, 2, 45), (49, 3, 51), (49, 4, 52), (49, 5, 53), (49, 6, 54), (55, 10, 56), (55, 11, 57), (55, 12, 58), (55, 13, 59), (55, 14, 60), (55, 15, 61), (55, 24, 62), (55, 28, 63), (55, 29, 64), (55, 30, 65), (55, 31, 66), (55, 32, 67), (55, 33, 68), (55, 34, 69), (55, 35, 70), (55, 36, 71), (55, 37, 72), (55, 38, 73), (55, 39, 74), (55, 40, 75), (55, 41, 76), (55, 42, 77), (55, 43, 78), (55, 44, 79), (55, 47, 80), (55, 48, 81), (55, 49, 82), (55, 50, 83), (55, 51, 84), (55, 52, 85), (55, 53, 86), (55, 54, 87)]
def SH (u : Mem) : Prop := (88 ≤ mN u ∧ mN u ≤ 388) ∧ (∀ q, q < 20 → mR u 11 q = some (14 + q)) ∧ ∀ t, t ∈ RTab → mR u t.1 t.2.1 = some t.2.2
theorem SH_sI (u : Mem) (a k : Nat) (v : Int32) : SH (sI u a k v) = SH u := rfl
theorem SH_sL (u : Mem) (a k : Nat) (v : Int64) : SH (sL u a k v) = SH u := rfl
theorem SH_same {u u' : Mem} (h : SH u) (hn : mN u' = mN u) (hr : ∀ a k, a < 55 ∧ a ≠ 12 ∧ a ≠ 13 ∨ a = 55 → mR u' a k = mR u a k) : SH u' := by
  refine ⟨by rw [hn]; exact h.1, fun q hq => by rw [hr 11 q (by omega)]; exact h.2.1 q hq, fun t ht => ?_⟩
  rw [hr t.1 t.2.1 ?_]
  · exact h.2.2 t ht
  · revert t
    decide
theorem SH_sR {u : Mem} (h : SH u) {a k : Nat} {v : Option Nat} (ha : a = 12 ∨ a = 13 ∨ 88 ≤ a) : SH (sR u a k v) := by
  refine SH_same h rfl fun b j hb => ?_
  rw [mR_sR, if_neg (by omega)]
theorem SH_sN {u : Mem} (h : SH u) (hn : mN u < 388) : SH (sN u) := by
  refine ⟨by rw [mN_sN]; have := h.1; omega, fun q hq => ?_, fun t ht => ?_⟩
  · rw [mR_sN, if_neg (by have := h.1; omega)]; exact h.2.1 q hq
  · rw [mR_sN, if_neg ?_]
    · exact h.2.2 t ht
    · have h1 : t.1 < 88 := by revert t; decide
      have := h.1; omega
def KO (a c : Nat) : Bool := decide (a < 88) && ((KF a).1 == c)
theorem okF {u : Mem} (h : SH u) {a c : Nat} (e : KO a c = true) : okc u a c = true := by
  unfold KO at e
  rw [Bool.and_eq_true] at e
  have h1 := of_decide_eq_true e.1
  have h2 := h.1.1
  unfold okc
  rw [e.2, decide_eq_true (by omega)]
  rfl
theorem ok_q {u : Mem} (h : SH u) {q : Nat} (hq : q < 20) : okc u (14 + q) 5 = true := by
  refine okF h ?_
  revert q
  decide
theorem KF_g (i : Nat) : KF (88 + i) = (3, 5) := by
  unfold KF
  rw [List.getD_eq_getElem?_getD, List.getElem?_eq_none (by show 88 ≤ 88 + i; omega)]
  rfl
theorem ok_g {u : Mem} {i : Nat} (hi : 88 + i < mN u) : okc u (88 + i) 3 = true := by
  unfold okc
  rw [KF_g, decide_eq_true hi]
  rfl
section STEP
variable {u : Mem} {a c k : Nat} {β : Type}
theorem s_gI {f : Int32 → Option β} (h : okc u a c = true) : (gfI u (some a) c k).bind f = f (mI u a k) := by
  unfold gfI; rw [Option.bind_some, if_pos h, Option.bind_some]
theorem s_gR {f : Option Nat → Option β} (h : okc u a c = true) : (gfR u (some a) c k).bind f = f (mR u a k) := by
  unfold gfR; rw [Option.bind_some, if_pos h, Option.bind_some]
theorem s_pI {v : Int32} {f : Mem → Option β} (h : okc u a c = true) : (pfI u (some a) c k v).bind f = f (sI u a k v) := by
  unfold pfI; rw [Option.bind_some, if_pos h, Option.bind_some]
theorem s_pR {v : Option Nat} {f : Mem → Option β} (h : okc u a c = true) : (pfR u (some a) c k v).bind f = f (sR u a k v) := by
  unfold pfR; rw [Option.bind_some, if_pos h, Option.bind_some]
theorem s_chk {f : Nat → Option β} (h : okc u a c = true) : (chk u (some a) c).bind f = f a := by
  unfold chk; rw [Option.bind_some, if_pos h, Option.bind_some]
theorem s_aI {n : Nat} {z : Int} {f : Int32 → Option β} (h : okc u a c = true) (e : (KF a).2 = n) (hn : n < 2147483648) (h0 : 0 ≤ z) (h1 : z < n) : (alI u (some a) c (J z)).bind f = f (mI u a z.toNat) := by
  unfold alI; rw [Option.bind_some, h, e, j_inb z n h0 h1 hn, j_nat z (by omega) (by omega)]; rfl
theorem s_aL {n : Nat} {z : Int} {f : Int64 → Option β} (h : okc u a c = true) (e : (KF a).2 = n) (hn : n < 2147483648) (h0 : 0 ≤ z) (h1 : z < n) : (alL u (some a) c (J z)).bind f = f (mL u a z.toNat) := by
  unfold alL; rw [Option.bind_some, h, e, j_inb z n h0 h1 hn, j_nat z (by omega) (by omega)]; rfl
theorem s_aR {n : Nat} {z : Int} {f : Option Nat → Option β} (h : okc u a c = true) (e : (KF a).2 = n) (hn : n < 2147483648) (h0 : 0 ≤ z) (h1 : z < n) : (alR u (some a) c (J z)).bind f = f (mR u a z.toNat) := by
  unfold alR; rw [Option.bind_some, h, e, j_inb z n h0 h1 hn, j_nat z (by omega) (by omega)]; rfl
theorem s_asI {n : Nat} {z : Int} {v : Int32} {f : Mem → Option β} (h : okc u a c = true) (e : (KF a).2 = n) (hn : n < 2147483648) (h0 : 0 ≤ z) (h1 : z < n) : (asI u (some a) c (J z) v).bind f = f (sI u a z.toNat v) := by
  unfold asI; rw [Option.bind_some, h, e, j_inb z n h0 h1 hn, j_nat z (by omega) (by omega)]; rfl
theorem s_asL {n : Nat} {z : Int} {v : Int64} {f : Mem → Option β} (h : okc u a c = true) (e : (KF a).2 = n) (hn : n < 2147483648) (h0 : 0 ≤ z) (h1 : z < n) : (asL u (some a) c (J z) v).bind f = f (sL u a z.toNat v) := by
  unfold asL; rw [Option.bind_some, h, e, j_inb z n h0 h1 hn, j_nat z (by omega) (by omega)]; rfl
theorem s_asR {n b : Nat} {z : Int} {f : Mem → Option β} (h : okc u a c = true) (e : (KF a).2 = n) (hn : n < 2147483648) (h0 : 0 ≤ z) (h1 : z < n) (hb : okc u b k = true) : (asR u (some a) c k (J z) (some b)).bind f = f (sR u a z.toNat (some b)) := by
  unfold asR; rw [Option.bind_some, h, e, j_inb z n h0 h1 hn, j_nat z (by omega) (by omega)]; show Option.bind (if (true && true && okc u b k) = true then _ else _) f = _; rw [hb]; rfl
theorem s_nm {α : Type} {x : α} {f : α → Option β} : nm x f = f x := rfl
theorem s_bnd2 {α γ : Type} {x : α} {y : γ} {f : α → γ → Option β} : bnd2 (some (x, y)) f = f x y := rfl
theorem s_some {α : Type} {x : α} {f : α → Option β} : (some x).bind f = f x := rfl
theorem s_suml {α γ : Type} {x : α} {f : α → Option β} {g : γ → Option β} : sumE (.inl x) f g = f x := rfl
theorem s_sumr {α γ : Type} {x : γ} {f : α → Option β} {g : γ → Option β} : sumE (.inr x) f g = g x := rfl
theorem s_nz {z : Int} {f : Int32 → Option β} (h1 : 0 < z) (h2 : z < 2147483648) : (nz32 (J z)).bind f = f (J z) := by
  unfold nz32
  rw [if_neg, Option.bind_some]
  rw [show (0 : Int32) = J 0 from rfl, j_eq z 0 (by omega) h2 (by omega) (by omega)]
  omega
theorem g_0_0 {f : Option Nat → Option β} (h : SH u) : (gfR u (some 0) 10 0).bind f = f (some 1) := by rw [s_gR (okF h rfl), h.2.2 (0, 0, 1) (by decide)]
theorem g_0_1 {f : Option Nat → Option β} (h : SH u) : (gfR u (some 0) 10 1).bind f = f (some 3) := by rw [s_gR (okF h rfl), h.2.2 (0, 1, 3) (by decide)]
theorem g_0_2 {f : Option Nat → Option β} (h : SH u) : (gfR u (some 0) 10 2).bind f = f (some 7) := by rw [s_gR (okF h rfl), h.2.2 (0, 2, 7) (by decide)]
theorem g_0_3 {f : Option Nat → Option β} (h : SH u) : (gfR u (some 0) 10 3).bind f = f (some 10) := by rw [s_gR (okF h rfl), h.2.2 (0, 3, 10) (by decide)]
theorem g_0_4 {f : Option Nat → Option β} (h : SH u) : (gfR u (some 0) 10 4).bind f = f (some 34) := by rw [s_gR (okF h rfl), h.2.2 (0, 4, 34) (by decide)]
theorem g_0_5 {f : Option Nat → Option β} (h : SH u) : (gfR u (some 0) 10 5).bind f = f (some 39) := by rw [s_gR (okF h rfl), h.2.2 (0, 5, 39) (by decide)]
theorem g_0_6 {f : Option Nat → Option β} (h : SH u) : (gfR u (some 0) 10 6).bind f = f (some 45) := by rw [s_gR (okF h rfl), h.2.2 (0, 6, 45) (by decide)]
theorem g_0_7 {f : Option Nat → Option β} (h : SH u) : (gfR u (some 0) 10 7).bind f = f (some 49) := by rw [s_gR (okF h rfl), h.2.2 (0, 7, 49) (by decide)]
theorem g_1_0 {f : Option Nat → Option β} (h : SH u) : (gfR u (some 1) 8 0).bind f = f (some 2) := by rw [s_gR (okF h rfl), h.2.2 (1, 0, 2) (by decide)]
theorem g_3_0 {f : Option Nat → Option β} (h : SH u) : (gfR u (some 3) 6 0).bind f = f (some 4) := by rw [s_gR (okF h rfl), h.2.2 (3, 0, 4) (by decide)]
theorem g_3_3 {f : Option Nat → Option β} (h : SH u) : (gfR u (some 3) 6 3).bind f = f (some 1) := by rw [s_gR (okF h rfl), h.2.2 (3, 3, 1) (by decide)]
theorem g_4_0 {f : Option Nat → Option β} (h : SH u) : (gfR u (some 4) 7 0).bind f = f (some 5) := by rw [s_gR (okF h rfl), h.2.2 (4, 0, 5) (by decide)]
theorem g_4_1 {f : Option Nat → Option β} (h : SH u) : (gfR u (some 4) 7 1).bind f = f (some 6) := by rw [s_gR (okF h rfl), h.2.2 (4, 1, 6) (by decide)]
theorem g_7_0 {f : Option Nat → Option β} (h : SH u) : (gfR u (some 7) 7 0).bind f = f (some 8) := by rw [s_gR (okF h rfl), h.2.2 (7, 0, 8) (by decide)]
theorem g_7_1 {f : Option Nat → Option β} (h : SH u) : (gfR u (some 7) 7 1).bind f = f (some 9) := by rw [s_gR (okF h rfl), h.2.2 (7, 1, 9) (by decide)]
theorem g_10_0 {f : Option Nat → Option β} (h : SH u) : (gfR u (some 10) 0 0).bind f = f (some 11) := by rw [s_gR (okF h rfl), h.2.2 (10, 0, 11) (by decide)]
theorem g_10_1 {f : Option Nat → Option β} (h : SH u) : (gfR u (some 10) 0 1).bind f = f (some 12) := by rw [s_gR (okF h rfl), h.2.2 (10, 1, 12) (by decide)]
theorem g_10_2 {f : Option Nat → Option β} (h : SH u) : (gfR u (some 10) 0 2).bind f = f (some 13) := by rw [s_gR (okF h rfl), h.2.2 (10, 2, 13) (by decide)]
theorem g_34_0 {f : Option Nat → Option β} (h : SH u) : (gfR u (some 34) 1 0).bind f = f (some 35) := by rw [s_gR (okF h rfl), h.2.2 (34, 0, 35) (by decide)]
theorem g_34_1 {f : Option Nat → Option β} (h : SH u) : (gfR u (some 34) 1 1).bind f = f (some 36) := by rw [s_gR (okF h rfl), h.2.2 (34, 1, 36) (by decide)]
theorem g_34_2 {f : Option Nat → Option β} (h : SH u) : (gfR u (some 34) 1 2).bind f = f (some 10) := by rw [s_gR (okF h rfl), h.2.2 (34, 2, 10) (by decide)]
theorem g_34_3 {f : Option Nat → Option β} (h : SH u) : (gfR u (some 34) 1 3).bind f = f (some 7) := by rw [s_gR (okF h rfl), h.2.2 (34, 3, 7) (by decide)]
theorem g_34_4 {f : Option Nat → Option β} (h : SH u) : (gfR u (some 34) 1 4).bind f = f (some 37) := by rw [s_gR (okF h rfl), h.2.2 (34, 4, 37) (by decide)]
theorem g_34_5 {f : Option Nat → Option β} (h : SH u) : (gfR u (some 34) 1 5).bind f = f (some 38) := by rw [s_gR (okF h rfl), h.2.2 (34, 5, 38) (by decide)]
theorem g_39_2 {f : Option Nat → Option β} (h : SH u) : (gfR u (some 39) 2 2).bind f = f (some 10) := by rw [s_gR (okF h rfl), h.2.2 (39, 2, 10) (by decide)]
theorem g_39_3 {f : Option Nat → Option β} (h : SH u) : (gfR u (some 39) 2 3).bind f = f (some 7) := by rw [s_gR (okF h rfl), h.2.2 (39, 3, 7) (by decide)]
theorem g_39_4 {f : Option Nat → Option β} (h : SH u) : (gfR u (some 39) 2 4).bind f = f (some 34) := by rw [s_gR (okF h rfl), h.2.2 (39, 4, 34) (by decide)]
theorem g_39_5 {f : Option Nat → Option β} (h : SH u) : (gfR u (some 39) 2 5).bind f = f (some 40) := by rw [s_gR (okF h rfl), h.2.2 (39, 5, 40) (by decide)]
theorem g_39_6 {f : Option Nat → Option β} (h : SH u) : (gfR u (some 39) 2 6).bind f = f (some 41) := by rw [s_gR (okF h rfl), h.2.2 (39, 6, 41) (by decide)]
theorem g_39_7 {f : Option Nat → Option β} (h : SH u) : (gfR u (some 39) 2 7).bind f = f (some 42) := by rw [s_gR (okF h rfl), h.2.2 (39, 7, 42) (by decide)]
theorem g_39_8 {f : Option Nat → Option β} (h : SH u) : (gfR u (some 39) 2 8).bind f = f (some 43) := by rw [s_gR (okF h rfl), h.2.2 (39, 8, 43) (by decide)]
theorem g_39_9 {f : Option Nat → Option β} (h : SH u) : (gfR u (some 39) 2 9).bind f = f (some 44) := by rw [s_gR (okF h rfl), h.2.2 (39, 9, 44) (by decide)]
theorem g_45_0 {f : Option Nat → Option β} (h : SH u) : (gfR u (some 45) 9 0).bind f = f (some 46) := by rw [s_gR (okF h rfl), h.2.2 (45, 0, 46) (by decide)]
theorem g_45_1 {f : Option Nat → Option β} (h : SH u) : (gfR u (some 45) 9 1).bind f = f (some 47) := by rw [s_gR (okF h rfl), h.2.2 (45, 1, 47) (by decide)]
theorem g_45_2 {f : Option Nat → Option β} (h : SH u) : (gfR u (some 45) 9 2).bind f = f (some 48) := by rw [s_gR (okF h rfl), h.2.2 (45, 2, 48) (by decide)]
theorem g_45_4 {f : Option Nat → Option β} (h : SH u) : (gfR u (some 45) 9 4).bind f = f (some 10) := by rw [s_gR (okF h rfl), h.2.2 (45, 4, 10) (by decide)]
theorem g_49_0 {f : Option Nat → Option β} (h : SH u) : (gfR u (some 49) 4 0).bind f = f (some 50) := by rw [s_gR (okF h rfl), h.2.2 (49, 0, 50) (by decide)]
theorem g_49_1 {f : Option Nat → Option β} (h : SH u) : (gfR u (some 49) 4 1).bind f = f (some 10) := by rw [s_gR (okF h rfl), h.2.2 (49, 1, 10) (by decide)]
theorem g_49_2 {f : Option Nat → Option β} (h : SH u) : (gfR u (some 49) 4 2).bind f = f (some 45) := by rw [s_gR (okF h rfl), h.2.2 (49, 2, 45) (by decide)]
theorem g_49_3 {f : Option Nat → Option β} (h : SH u) : (gfR u (some 49) 4 3).bind f = f (some 51) := by rw [s_gR (okF h rfl), h.2.2 (49, 3, 51) (by decide)]
theorem g_49_4 {f : Option Nat → Option β} (h : SH u) : (gfR u (some 49) 4 4).bind f = f (some 52) := by rw [s_gR (okF h rfl), h.2.2 (49, 4, 52) (by decide)]
theorem g_49_5 {f : Option Nat → Option β} (h : SH u) : (gfR u (some 49) 4 5).bind f = f (some 53) := by rw [s_gR (okF h rfl), h.2.2 (49, 5, 53) (by decide)]
theorem g_49_6 {f : Option Nat → Option β} (h : SH u) : (gfR u (some 49) 4 6).bind f = f (some 54) := by rw [s_gR (okF h rfl), h.2.2 (49, 6, 54) (by decide)]
theorem g_55_10 {f : Option Nat → Option β} (h : SH u) : (gfR u (some 55) 12 10).bind f = f (some 56) := by rw [s_gR (okF h rfl), h.2.2 (55, 10, 56) (by decide)]
theorem g_55_11 {f : Option Nat → Option β} (h : SH u) : (gfR u (some 55) 12 11).bind f = f (some 57) := by rw [s_gR (okF h rfl), h.2.2 (55, 11, 57) (by decide)]
theorem g_55_12 {f : Option Nat → Option β} (h : SH u) : (gfR u (some 55) 12 12).bind f = f (some 58) := by rw [s_gR (okF h rfl), h.2.2 (55, 12, 58) (by decide)]
theorem g_55_13 {f : Option Nat → Option β} (h : SH u) : (gfR u (some 55) 12 13).bind f = f (some 59) := by rw [s_gR (okF h rfl), h.2.2 (55, 13, 59) (by decide)]
theorem g_55_14 {f : Option Nat → Option β} (h : SH u) : (gfR u (some 55) 12 14).bind f = f (some 60) := by rw [s_gR (okF h rfl), h.2.2 (55, 14, 60) (by decide)]
theorem g_55_15 {f : Option Nat → Option β} (h : SH u) : (gfR u (some 55) 12 15).bind f = f (some 61) := by rw [s_gR (okF h rfl), h.2.2 (55, 15, 61) (by decide)]
theorem g_55_24 {f : Option Nat → Option β} (h : SH u) : (gfR u (some 55) 12 24).bind f = f (some 62) := by rw [s_gR (okF h rfl), h.2.2 (55, 24, 62) (by decide)]
theorem g_55_28 {f : Option Nat → Option β} (h : SH u) : (gfR u (some 55) 12 28).bind f = f (some 63) := by rw [s_gR (okF h rfl), h.2.2 (55, 28, 63) (by decide)]
theorem g_55_29 {f : Option Nat → Option β} (h : SH u) : (gfR u (some 55) 12 29).bind f = f (some 64) := by rw [s_gR (okF h rfl), h.2.2 (55, 29, 64) (by decide)]
theorem g_55_30 {f : Option Nat → Option β} (h : SH u) : (gfR u (some 55) 12 30).bind f = f (some 65) := by rw [s_gR (okF h rfl), h.2.2 (55, 30, 65) (by decide)]
theorem g_55_31 {f : Option Nat → Option β} (h : SH u) : (gfR u (some 55) 12 31).bind f = f (some 66) := by rw [s_gR (okF h rfl), h.2.2 (55, 31, 66) (by decide)]
theorem g_55_32 {f : Option Nat → Option β} (h : SH u) : (gfR u (some 55) 12 32).bind f = f (some 67) := by rw [s_gR (okF h rfl), h.2.2 (55, 32, 67) (by decide)]
theorem g_55_33 {f : Option Nat → Option β} (h : SH u) : (gfR u (some 55) 12 33).bind f = f (some 68) := by rw [s_gR (okF h rfl), h.2.2 (55, 33, 68) (by decide)]
theorem g_55_34 {f : Option Nat → Option β} (h : SH u) : (gfR u (some 55) 12 34).bind f = f (some 69) := by rw [s_gR (okF h rfl), h.2.2 (55, 34, 69) (by decide)]
theorem g_55_35 {f : Option Nat → Option β} (h : SH u) : (gfR u (some 55) 12 35).bind f = f (some 70) := by rw [s_gR (okF h rfl), h.2.2 (55, 35, 70) (by decide)]
theorem g_55_36 {f : Option Nat → Option β} (h : SH u) : (gfR u (some 55) 12 36).bind f = f (some 71) := by rw [s_gR (okF h rfl), h.2.2 (55, 36, 71) (by decide)]
theorem g_55_37 {f : Option Nat → Option β} (h : SH u) : (gfR u (some 55) 12 37).bind f = f (some 72) := by rw [s_gR (okF h rfl), h.2.2 (55, 37, 72) (by decide)]
theorem g_55_38 {f : Option Nat → Option β} (h : SH u) : (gfR u (some 55) 12 38).bind f = f (some 73) := by rw [s_gR (okF h rfl), h.2.2 (55, 38, 73) (by decide)]
theorem g_55_39 {f : Option Nat → Option β} (h : SH u) : (gfR u (some 55) 12 39).bind f = f (some 74) := by rw [s_gR (okF h rfl), h.2.2 (55, 39, 74) (by decide)]
theorem g_55_40 {f : Option Nat → Option β} (h : SH u) : (gfR u (some 55) 12 40).bind f = f (some 75) := by rw [s_gR (okF h rfl), h.2.2 (55, 40, 75) (by decide)]
theorem g_55_41 {f : Option Nat → Option β} (h : SH u) : (gfR u (some 55) 12 41).bind f = f (some 76) := by rw [s_gR (okF h rfl), h.2.2 (55, 41, 76) (by decide)]
theorem g_55_42 {f : Option Nat → Option β} (h : SH u) : (gfR u (some 55) 12 42).bind f = f (some 77) := by rw [s_gR (okF h rfl), h.2.2 (55, 42, 77) (by decide)]
theorem g_55_43 {f : Option Nat → Option β} (h : SH u) : (gfR u (some 55) 12 43).bind f = f (some 78) := by rw [s_gR (okF h rfl), h.2.2 (55, 43, 78) (by decide)]
theorem g_55_44 {f : Option Nat → Option β} (h : SH u) : (gfR u (some 55) 12 44).bind f = f (some 79) := by rw [s_gR (okF h rfl), h.2.2 (55, 44, 79) (by decide)]
theorem g_55_47 {f : Option Nat → Option β} (h : SH u) : (gfR u (some 55) 12 47).bind f = f (some 80) := by rw [s_gR (okF h rfl), h.2.2 (55, 47, 80) (by decide)]
theorem g_55_48 {f : Option Nat → Option β} (h : SH u) : (gfR u (some 55) 12 48).bind f = f (some 81) := by rw [s_gR (okF h rfl), h.2.2 (55, 48, 81) (by decide)]
theorem g_55_49 {f : Option Nat → Option β} (h : SH u) : (gfR u (some 55) 12 49).bind f = f (some 82) := by rw [s_gR (okF h rfl), h.2.2 (55, 49, 82) (by decide)]
theorem g_55_50 {f : Option Nat → Option β} (h : SH u) : (gfR u (some 55) 12 50).bind f = f (some 83) := by rw [s_gR (okF h rfl), h.2.2 (55, 50, 83) (by decide)]
theorem g_55_51 {f : Option Nat → Option β} (h : SH u) : (gfR u (some 55) 12 51).bind f = f (some 84) := by rw [s_gR (okF h rfl), h.2.2 (55, 51, 84) (by decide)]
theorem g_55_52 {f : Option Nat → Option β} (h : SH u) : (gfR u (some 55) 12 52).bind f = f (some 85) := by rw [s_gR (okF h rfl), h.2.2 (55, 52, 85) (by decide)]
theorem g_55_53 {f : Option Nat → Option β} (h : SH u) : (gfR u (some 55) 12 53).bind f = f (some 86) := by rw [s_gR (okF h rfl), h.2.2 (55, 53, 86) (by decide)]
theorem g_55_54 {f : Option Nat → Option β} (h : SH u) : (gfR u (some 55) 12 54).bind f = f (some 87) := by rw [s_gR (okF h rfl), h.2.2 (55, 54, 87) (by decide)]
theorem al_2 {z : Int} {f : Int32 → Option β} (h : SH u) (h0 : 0 ≤ z) (h1 : z < 500) : (alI u (some 2) 21 (J z)).bind f = f (mI u 2 z.toNat) := s_aI (okF h rfl) rfl (by decide) h0 h1
theorem as_2 {z : Int} {v : Int32} {f : Mem → Option β} (h : SH u) (h0 : 0 ≤ z) (h1 : z < 500) : (asI u (some 2) 21 (J z) v).bind f = f (sI u 2 z.toNat v) := s_asI (okF h rfl) rfl (by decide) h0 h1
theorem al_5 {z : Int} {f : Int32 → Option β} (h : SH u) (h0 : 0 ≤ z) (h1 : z < 11) : (alI u (some 5) 20 (J z)).bind f = f (mI u 5 z.toNat) := s_aI (okF h rfl) rfl (by decide) h0 h1
theorem as_5 {z : Int} {v : Int32} {f : Mem → Option β} (h : SH u) (h0 : 0 ≤ z) (h1 : z < 11) : (asI u (some 5) 20 (J z) v).bind f = f (sI u 5 z.toNat v) := s_asI (okF h rfl) rfl (by decide) h0 h1
theorem al_6 {z : Int} {f : Int32 → Option β} (h : SH u) (h0 : 0 ≤ z) (h1 : z < 11) : (alI u (some 6) 20 (J z)).bind f = f (mI u 6 z.toNat) := s_aI (okF h rfl) rfl (by decide) h0 h1
theorem as_6 {z : Int} {v : Int32} {f : Mem → Option β} (h : SH u) (h0 : 0 ≤ z) (h1 : z < 11) : (asI u (some 6) 20 (J z) v).bind f = f (sI u 6 z.toNat v) := s_asI (okF h rfl) rfl (by decide) h0 h1
theorem al_8 {z : Int} {f : Int32 → Option β} (h : SH u) (h0 : 0 ≤ z) (h1 : z < 11) : (alI u (some 8) 20 (J z)).bind f = f (mI u 8 z.toNat) := s_aI (okF h rfl) rfl (by decide) h0 h1
theorem as_8 {z : Int} {v : Int32} {f : Mem → Option β} (h : SH u) (h0 : 0 ≤ z) (h1 : z < 11) : (asI u (some 8) 20 (J z) v).bind f = f (sI u 8 z.toNat v) := s_asI (okF h rfl) rfl (by decide) h0 h1
theorem al_9 {z : Int} {f : Int32 → Option β} (h : SH u) (h0 : 0 ≤ z) (h1 : z < 11) : (alI u (some 9) 20 (J z)).bind f = f (mI u 9 z.toNat) := s_aI (okF h rfl) rfl (by decide) h0 h1
theorem as_9 {z : Int} {v : Int32} {f : Mem → Option β} (h : SH u) (h0 : 0 ≤ z) (h1 : z < 11) : (asI u (some 9) 20 (J z) v).bind f = f (sI u 9 z.toNat v) := s_asI (okF h rfl) rfl (by decide) h0 h1
theorem al_11 {z : Int} {f : Option Nat → Option β} (h : SH u) (h0 : 0 ≤ z) (h1 : z < 20) : (alR u (some 11) 24 (J z)).bind f = f (some (14 + z.toNat)) := by rw [s_aR (n := 20) (okF h rfl) rfl (by decide) h0 h1, h.2.1 _ (by omega)]
theorem al_12 {z : Int} {f : Option Nat → Option β} (h : SH u) (h0 : 0 ≤ z) (h1 : z < 400) : (alR u (some 12) 25 (J z)).bind f = f (mR u 12 z.toNat) := s_aR (okF h rfl) rfl (by decide) h0 h1
theorem as_12 {b : Nat} {z : Int} {f : Mem → Option β} (h : SH u) (h0 : 0 ≤ z) (h1 : z < 400) (hb : okc u b 3 = true) : (asR u (some 12) 25 3 (J z) (some b)).bind f = f (sR u 12 z.toNat (some b)) := s_asR (okF h rfl) rfl (by decide) h0 h1 hb
theorem al_13 {z : Int} {f : Option Nat → Option β} (h : SH u) (h0 : 0 ≤ z) (h1 : z < 300) : (alR u (some 13) 25 (J z)).bind f = f (mR u 13 z.toNat) := s_aR (okF h rfl) rfl (by decide) h0 h1
theorem as_13 {b : Nat} {z : Int} {f : Mem → Option β} (h : SH u) (h0 : 0 ≤ z) (h1 : z < 300) (hb : okc u b 3 = true) : (asR u (some 13) 25 3 (J z) (some b)).bind f = f (sR u 13 z.toNat (some b)) := s_asR (okF h rfl) rfl (by decide) h0 h1 hb
theorem al_35 {z : Int} {f : Int32 → Option β} (h : SH u) (h0 : 0 ≤ z) (h1 : z < 400) : (alI u (some 35) 20 (J z)).bind f = f (mI u 35 z.toNat) := s_aI (okF h rfl) rfl (by decide) h0 h1
theorem as_35 {z : Int} {v : Int32} {f : Mem → Option β} (h : SH u) (h0 : 0 ≤ z) (h1 : z < 400) : (asI u (some 35) 20 (J z) v).bind f = f (sI u 35 z.toNat v) := s_asI (okF h rfl) rfl (by decide) h0 h1
theorem al_36 {z : Int} {f : Int32 → Option β} (h : SH u) (h0 : 0 ≤ z) (h1 : z < 400) : (alI u (some 36) 20 (J z)).bind f = f (mI u 36 z.toNat) := s_aI (okF h rfl) rfl (by decide) h0 h1
theorem as_36 {z : Int} {v : Int32} {f : Mem → Option β} (h : SH u) (h0 : 0 ≤ z) (h1 : z < 400) : (asI u (some 36) 20 (J z) v).bind f = f (sI u 36 z.toNat v) := s_asI (okF h rfl) rfl (by decide) h0 h1
theorem al_37 {z : Int} {f : Int32 → Option β} (h : SH u) (h0 : 0 ≤ z) (h1 : z < 20) : (alI u (some 37) 20 (J z)).bind f = f (mI u 37 z.toNat) := s_aI (okF h rfl) rfl (by decide) h0 h1
theorem as_37 {z : Int} {v : Int32} {f : Mem → Option β} (h : SH u) (h0 : 0 ≤ z) (h1 : z < 20) : (asI u (some 37) 20 (J z) v).bind f = f (sI u 37 z.toNat v) := s_asI (okF h rfl) rfl (by decide) h0 h1
theorem al_38 {z : Int} {f : Int32 → Option β} (h : SH u) (h0 : 0 ≤ z) (h1 : z < 20) : (alI u (some 38) 20 (J z)).bind f = f (mI u 38 z.toNat) := s_aI (okF h rfl) rfl (by decide) h0 h1
theorem as_38 {z : Int} {v : Int32} {f : Mem → Option β} (h : SH u) (h0 : 0 ≤ z) (h1 : z < 20) : (asI u (some 38) 20 (J z) v).bind f = f (sI u 38 z.toNat v) := s_asI (okF h rfl) rfl (by decide) h0 h1
theorem al_40 {z : Int} {f : Int32 → Option β} (h : SH u) (h0 : 0 ≤ z) (h1 : z < 400) : (alI u (some 40) 20 (J z)).bind f = f (mI u 40 z.toNat) := s_aI (okF h rfl) rfl (by decide) h0 h1
theorem as_40 {z : Int} {v : Int32} {f : Mem → Option β} (h : SH u) (h0 : 0 ≤ z) (h1 : z < 400) : (asI u (some 40) 20 (J z) v).bind f = f (sI u 40 z.toNat v) := s_asI (okF h rfl) rfl (by decide) h0 h1
theorem al_41 {z : Int} {f : Int32 → Option β} (h : SH u) (h0 : 0 ≤ z) (h1 : z < 400) : (alI u (some 41) 20 (J z)).bind f = f (mI u 41 z.toNat) := s_aI (okF h rfl) rfl (by decide) h0 h1
theorem as_41 {z : Int} {v : Int32} {f : Mem → Option β} (h : SH u) (h0 : 0 ≤ z) (h1 : z < 400) : (asI u (some 41) 20 (J z) v).bind f = f (sI u 41 z.toNat v) := s_asI (okF h rfl) rfl (by decide) h0 h1
theorem al_42 {z : Int} {f : Int32 → Option β} (h : SH u) (h0 : 0 ≤ z) (h1 : z < 1200) : (alI u (some 42) 20 (J z)).bind f = f (mI u 42 z.toNat) := s_aI (okF h rfl) rfl (by decide) h0 h1
theorem as_42 {z : Int} {v : Int32} {f : Mem → Option β} (h : SH u) (h0 : 0 ≤ z) (h1 : z < 1200) : (asI u (some 42) 20 (J z) v).bind f = f (sI u 42 z.toNat v) := s_asI (okF h rfl) rfl (by decide) h0 h1
theorem al_43 {z : Int} {f : Int32 → Option β} (h : SH u) (h0 : 0 ≤ z) (h1 : z < 20) : (alI u (some 43) 20 (J z)).bind f = f (mI u 43 z.toNat) := s_aI (okF h rfl) rfl (by decide) h0 h1
theorem as_43 {z : Int} {v : Int32} {f : Mem → Option β} (h : SH u) (h0 : 0 ≤ z) (h1 : z < 20) : (asI u (some 43) 20 (J z) v).bind f = f (sI u 43 z.toNat v) := s_asI (okF h rfl) rfl (by decide) h0 h1
theorem al_44 {z : Int} {f : Int32 → Option β} (h : SH u) (h0 : 0 ≤ z) (h1 : z < 11) : (alI u (some 44) 20 (J z)).bind f = f (mI u 44 z.toNat) := s_aI (okF h rfl) rfl (by decide) h0 h1
theorem as_44 {z : Int} {v : Int32} {f : Mem → Option β} (h : SH u) (h0 : 0 ≤ z) (h1 : z < 11) : (asI u (some 44) 20 (J z) v).bind f = f (sI u 44 z.toNat v) := s_asI (okF h rfl) rfl (by decide) h0 h1
theorem al_46 {z : Int} {f : Int32 → Option β} (h : SH u) (h0 : 0 ≤ z) (h1 : z < 30) : (alI u (some 46) 20 (J z)).bind f = f (mI u 46 z.toNat) := s_aI (okF h rfl) rfl (by decide) h0 h1
theorem as_46 {z : Int} {v : Int32} {f : Mem → Option β} (h : SH u) (h0 : 0 ≤ z) (h1 : z < 30) : (asI u (some 46) 20 (J z) v).bind f = f (sI u 46 z.toNat v) := s_asI (okF h rfl) rfl (by decide) h0 h1
theorem al_47 {z : Int} {f : Int32 → Option β} (h : SH u) (h0 : 0 ≤ z) (h1 : z < 30) : (alI u (some 47) 20 (J z)).bind f = f (mI u 47 z.toNat) := s_aI (okF h rfl) rfl (by decide) h0 h1
theorem as_47 {z : Int} {v : Int32} {f : Mem → Option β} (h : SH u) (h0 : 0 ≤ z) (h1 : z < 30) : (asI u (some 47) 20 (J z) v).bind f = f (sI u 47 z.toNat v) := s_asI (okF h rfl) rfl (by decide) h0 h1
theorem al_48 {z : Int} {f : Int32 → Option β} (h : SH u) (h0 : 0 ≤ z) (h1 : z < 30) : (alI u (some 48) 20 (J z)).bind f = f (mI u 48 z.toNat) := s_aI (okF h rfl) rfl (by decide) h0 h1
theorem as_48 {z : Int} {v : Int32} {f : Mem → Option β} (h : SH u) (h0 : 0 ≤ z) (h1 : z < 30) : (asI u (some 48) 20 (J z) v).bind f = f (sI u 48 z.toNat v) := s_asI (okF h rfl) rfl (by decide) h0 h1
theorem al_50 {z : Int} {f : Int32 → Option β} (h : SH u) (h0 : 0 ≤ z) (h1 : z < 20) : (alI u (some 50) 20 (J z)).bind f = f (mI u 50 z.toNat) := s_aI (okF h rfl) rfl (by decide) h0 h1
theorem as_50 {z : Int} {v : Int32} {f : Mem → Option β} (h : SH u) (h0 : 0 ≤ z) (h1 : z < 20) : (asI u (some 50) 20 (J z) v).bind f = f (sI u 50 z.toNat v) := s_asI (okF h rfl) rfl (by decide) h0 h1
theorem al_51 {z : Int} {f : Int32 → Option β} (h : SH u) (h0 : 0 ≤ z) (h1 : z < 4) : (alI u (some 51) 20 (J z)).bind f = f (mI u 51 z.toNat) := s_aI (okF h rfl) rfl (by decide) h0 h1
theorem as_51 {z : Int} {v : Int32} {f : Mem → Option β} (h : SH u) (h0 : 0 ≤ z) (h1 : z < 4) : (asI u (some 51) 20 (J z) v).bind f = f (sI u 51 z.toNat v) := s_asI (okF h rfl) rfl (by decide) h0 h1
theorem al_52 {z : Int} {f : Int32 → Option β} (h : SH u) (h0 : 0 ≤ z) (h1 : z < 4) : (alI u (some 52) 20 (J z)).bind f = f (mI u 52 z.toNat) := s_aI (okF h rfl) rfl (by decide) h0 h1
theorem as_52 {z : Int} {v : Int32} {f : Mem → Option β} (h : SH u) (h0 : 0 ≤ z) (h1 : z < 4) : (asI u (some 52) 20 (J z) v).bind f = f (sI u 52 z.toNat v) := s_asI (okF h rfl) rfl (by decide) h0 h1
theorem al_53 {z : Int} {f : Int32 → Option β} (h : SH u) (h0 : 0 ≤ z) (h1 : z < 4) : (alI u (some 53) 20 (J z)).bind f = f (mI u 53 z.toNat) := s_aI (okF h rfl) rfl (by decide) h0 h1
theorem as_53 {z : Int} {v : Int32} {f : Mem → Option β} (h : SH u) (h0 : 0 ≤ z) (h1 : z < 4) : (asI u (some 53) 20 (J z) v).bind f = f (sI u 53 z.toNat v) := s_asI (okF h rfl) rfl (by decide) h0 h1
theorem al_54 {z : Int} {f : Int32 → Option β} (h : SH u) (h0 : 0 ≤ z) (h1 : z < 4) : (alI u (some 54) 20 (J z)).bind f = f (mI u 54 z.toNat) := s_aI (okF h rfl) rfl (by decide) h0 h1
theorem as_54 {z : Int} {v : Int32} {f : Mem → Option β} (h : SH u) (h0 : 0 ≤ z) (h1 : z < 4) : (asI u (some 54) 20 (J z) v).bind f = f (sI u 54 z.toNat v) := s_asI (okF h rfl) rfl (by decide) h0 h1
theorem al_56 {z : Int} {f : Int32 → Option β} (h : SH u) (h0 : 0 ≤ z) (h1 : z < 11) : (alI u (some 56) 20 (J z)).bind f = f (mI u 56 z.toNat) := s_aI (okF h rfl) rfl (by decide) h0 h1
theorem as_56 {z : Int} {v : Int32} {f : Mem → Option β} (h : SH u) (h0 : 0 ≤ z) (h1 : z < 11) : (asI u (some 56) 20 (J z) v).bind f = f (sI u 56 z.toNat v) := s_asI (okF h rfl) rfl (by decide) h0 h1
theorem al_57 {z : Int} {f : Int32 → Option β} (h : SH u) (h0 : 0 ≤ z) (h1 : z < 11) : (alI u (some 57) 20 (J z)).bind f = f (mI u 57 z.toNat) := s_aI (okF h rfl) rfl (by decide) h0 h1
theorem as_57 {z : Int} {v : Int32} {f : Mem → Option β} (h : SH u) (h0 : 0 ≤ z) (h1 : z < 11) : (asI u (some 57) 20 (J z) v).bind f = f (sI u 57 z.toNat v) := s_asI (okF h rfl) rfl (by decide) h0 h1
theorem al_58 {z : Int} {f : Int32 → Option β} (h : SH u) (h0 : 0 ≤ z) (h1 : z < 11) : (alI u (some 58) 20 (J z)).bind f = f (mI u 58 z.toNat) := s_aI (okF h rfl) rfl (by decide) h0 h1
theorem as_58 {z : Int} {v : Int32} {f : Mem → Option β} (h : SH u) (h0 : 0 ≤ z) (h1 : z < 11) : (asI u (some 58) 20 (J z) v).bind f = f (sI u 58 z.toNat v) := s_asI (okF h rfl) rfl (by decide) h0 h1
theorem al_59 {z : Int} {f : Int32 → Option β} (h : SH u) (h0 : 0 ≤ z) (h1 : z < 11) : (alI u (some 59) 20 (J z)).bind f = f (mI u 59 z.toNat) := s_aI (okF h rfl) rfl (by decide) h0 h1
theorem as_59 {z : Int} {v : Int32} {f : Mem → Option β} (h : SH u) (h0 : 0 ≤ z) (h1 : z < 11) : (asI u (some 59) 20 (J z) v).bind f = f (sI u 59 z.toNat v) := s_asI (okF h rfl) rfl (by decide) h0 h1
theorem al_61 {z : Int} {f : Int32 → Option β} (h : SH u) (h0 : 0 ≤ z) (h1 : z < 500) : (alI u (some 61) 21 (J z)).bind f = f (mI u 61 z.toNat) := s_aI (okF h rfl) rfl (by decide) h0 h1
theorem as_61 {z : Int} {v : Int32} {f : Mem → Option β} (h : SH u) (h0 : 0 ≤ z) (h1 : z < 500) : (asI u (some 61) 21 (J z) v).bind f = f (sI u 61 z.toNat v) := s_asI (okF h rfl) rfl (by decide) h0 h1
theorem al_62 {z : Int} {f : Int32 → Option β} (h : SH u) (h0 : 0 ≤ z) (h1 : z < 6) : (alI u (some 62) 22 (J z)).bind f = f (mI u 62 z.toNat) := s_aI (okF h rfl) rfl (by decide) h0 h1
theorem as_62 {z : Int} {v : Int32} {f : Mem → Option β} (h : SH u) (h0 : 0 ≤ z) (h1 : z < 6) : (asI u (some 62) 22 (J z) v).bind f = f (sI u 62 z.toNat v) := s_asI (okF h rfl) rfl (by decide) h0 h1
theorem al_63 {z : Int} {f : Int32 → Option β} (h : SH u) (h0 : 0 ≤ z) (h1 : z < 20) : (alI u (some 63) 20 (J z)).bind f = f (mI u 63 z.toNat) := s_aI (okF h rfl) rfl (by decide) h0 h1
theorem as_63 {z : Int} {v : Int32} {f : Mem → Option β} (h : SH u) (h0 : 0 ≤ z) (h1 : z < 20) : (asI u (some 63) 20 (J z) v).bind f = f (sI u 63 z.toNat v) := s_asI (okF h rfl) rfl (by decide) h0 h1
theorem al_64 {z : Int} {f : Int32 → Option β} (h : SH u) (h0 : 0 ≤ z) (h1 : z < 20) : (alI u (some 64) 20 (J z)).bind f = f (mI u 64 z.toNat) := s_aI (okF h rfl) rfl (by decide) h0 h1
theorem as_64 {z : Int} {v : Int32} {f : Mem → Option β} (h : SH u) (h0 : 0 ≤ z) (h1 : z < 20) : (asI u (some 64) 20 (J z) v).bind f = f (sI u 64 z.toNat v) := s_asI (okF h rfl) rfl (by decide) h0 h1
theorem al_65 {z : Int} {f : Int32 → Option β} (h : SH u) (h0 : 0 ≤ z) (h1 : z < 20) : (alI u (some 65) 20 (J z)).bind f = f (mI u 65 z.toNat) := s_aI (okF h rfl) rfl (by decide) h0 h1
theorem as_65 {z : Int} {v : Int32} {f : Mem → Option β} (h : SH u) (h0 : 0 ≤ z) (h1 : z < 20) : (asI u (some 65) 20 (J z) v).bind f = f (sI u 65 z.toNat v) := s_asI (okF h rfl) rfl (by decide) h0 h1
theorem al_66 {z : Int} {f : Int32 → Option β} (h : SH u) (h0 : 0 ≤ z) (h1 : z < 20) : (alI u (some 66) 20 (J z)).bind f = f (mI u 66 z.toNat) := s_aI (okF h rfl) rfl (by decide) h0 h1
theorem as_66 {z : Int} {v : Int32} {f : Mem → Option β} (h : SH u) (h0 : 0 ≤ z) (h1 : z < 20) : (asI u (some 66) 20 (J z) v).bind f = f (sI u 66 z.toNat v) := s_asI (okF h rfl) rfl (by decide) h0 h1
theorem al_67 {z : Int} {f : Int32 → Option β} (h : SH u) (h0 : 0 ≤ z) (h1 : z < 300) : (alI u (some 67) 20 (J z)).bind f = f (mI u 67 z.toNat) := s_aI (okF h rfl) rfl (by decide) h0 h1
theorem as_67 {z : Int} {v : Int32} {f : Mem → Option β} (h : SH u) (h0 : 0 ≤ z) (h1 : z < 300) : (asI u (some 67) 20 (J z) v).bind f = f (sI u 67 z.toNat v) := s_asI (okF h rfl) rfl (by decide) h0 h1
theorem al_68 {z : Int} {f : Int32 → Option β} (h : SH u) (h0 : 0 ≤ z) (h1 : z < 300) : (alI u (some 68) 20 (J z)).bind f = f (mI u 68 z.toNat) := s_aI (okF h rfl) rfl (by decide) h0 h1
theorem as_68 {z : Int} {v : Int32} {f : Mem → Option β} (h : SH u) (h0 : 0 ≤ z) (h1 : z < 300) : (asI u (some 68) 20 (J z) v).bind f = f (sI u 68 z.toNat v) := s_asI (okF h rfl) rfl (by decide) h0 h1
theorem al_69 {z : Int} {f : Int32 → Option β} (h : SH u) (h0 : 0 ≤ z) (h1 : z < 300) : (alI u (some 69) 20 (J z)).bind f = f (mI u 69 z.toNat) := s_aI (okF h rfl) rfl (by decide) h0 h1
theorem as_69 {z : Int} {v : Int32} {f : Mem → Option β} (h : SH u) (h0 : 0 ≤ z) (h1 : z < 300) : (asI u (some 69) 20 (J z) v).bind f = f (sI u 69 z.toNat v) := s_asI (okF h rfl) rfl (by decide) h0 h1
theorem al_70 {z : Int} {f : Int32 → Option β} (h : SH u) (h0 : 0 ≤ z) (h1 : z < 300) : (alI u (some 70) 20 (J z)).bind f = f (mI u 70 z.toNat) := s_aI (okF h rfl) rfl (by decide) h0 h1
theorem as_70 {z : Int} {v : Int32} {f : Mem → Option β} (h : SH u) (h0 : 0 ≤ z) (h1 : z < 300) : (asI u (some 70) 20 (J z) v).bind f = f (sI u 70 z.toNat v) := s_asI (okF h rfl) rfl (by decide) h0 h1
theorem al_71 {z : Int} {f : Int32 → Option β} (h : SH u) (h0 : 0 ≤ z) (h1 : z < 30) : (alI u (some 71) 20 (J z)).bind f = f (mI u 71 z.toNat) := s_aI (okF h rfl) rfl (by decide) h0 h1
theorem as_71 {z : Int} {v : Int32} {f : Mem → Option β} (h : SH u) (h0 : 0 ≤ z) (h1 : z < 30) : (asI u (some 71) 20 (J z) v).bind f = f (sI u 71 z.toNat v) := s_asI (okF h rfl) rfl (by decide) h0 h1
theorem al_72 {z : Int} {f : Int32 → Option β} (h : SH u) (h0 : 0 ≤ z) (h1 : z < 30) : (alI u (some 72) 20 (J z)).bind f = f (mI u 72 z.toNat) := s_aI (okF h rfl) rfl (by decide) h0 h1
theorem as_72 {z : Int} {v : Int32} {f : Mem → Option β} (h : SH u) (h0 : 0 ≤ z) (h1 : z < 30) : (asI u (some 72) 20 (J z) v).bind f = f (sI u 72 z.toNat v) := s_asI (okF h rfl) rfl (by decide) h0 h1
theorem al_73 {z : Int} {f : Int32 → Option β} (h : SH u) (h0 : 0 ≤ z) (h1 : z < 30) : (alI u (some 73) 20 (J z)).bind f = f (mI u 73 z.toNat) := s_aI (okF h rfl) rfl (by decide) h0 h1
theorem as_73 {z : Int} {v : Int32} {f : Mem → Option β} (h : SH u) (h0 : 0 ≤ z) (h1 : z < 30) : (asI u (some 73) 20 (J z) v).bind f = f (sI u 73 z.toNat v) := s_asI (okF h rfl) rfl (by decide) h0 h1
theorem al_74 {z : Int} {f : Int32 → Option β} (h : SH u) (h0 : 0 ≤ z) (h1 : z < 24000) : (alI u (some 74) 20 (J z)).bind f = f (mI u 74 z.toNat) := s_aI (okF h rfl) rfl (by decide) h0 h1
theorem as_74 {z : Int} {v : Int32} {f : Mem → Option β} (h : SH u) (h0 : 0 ≤ z) (h1 : z < 24000) : (asI u (some 74) 20 (J z) v).bind f = f (sI u 74 z.toNat v) := s_asI (okF h rfl) rfl (by decide) h0 h1
theorem al_75 {z : Int} {f : Int32 → Option β} (h : SH u) (h0 : 0 ≤ z) (h1 : z < 400) : (alI u (some 75) 20 (J z)).bind f = f (mI u 75 z.toNat) := s_aI (okF h rfl) rfl (by decide) h0 h1
theorem as_75 {z : Int} {v : Int32} {f : Mem → Option β} (h : SH u) (h0 : 0 ≤ z) (h1 : z < 400) : (asI u (some 75) 20 (J z) v).bind f = f (sI u 75 z.toNat v) := s_asI (okF h rfl) rfl (by decide) h0 h1
theorem al_76 {z : Int} {f : Int32 → Option β} (h : SH u) (h0 : 0 ≤ z) (h1 : z < 400) : (alI u (some 76) 20 (J z)).bind f = f (mI u 76 z.toNat) := s_aI (okF h rfl) rfl (by decide) h0 h1
theorem as_76 {z : Int} {v : Int32} {f : Mem → Option β} (h : SH u) (h0 : 0 ≤ z) (h1 : z < 400) : (asI u (some 76) 20 (J z) v).bind f = f (sI u 76 z.toNat v) := s_asI (okF h rfl) rfl (by decide) h0 h1
theorem al_77 {z : Int} {f : Int32 → Option β} (h : SH u) (h0 : 0 ≤ z) (h1 : z < 400) : (alI u (some 77) 20 (J z)).bind f = f (mI u 77 z.toNat) := s_aI (okF h rfl) rfl (by decide) h0 h1
theorem as_77 {z : Int} {v : Int32} {f : Mem → Option β} (h : SH u) (h0 : 0 ≤ z) (h1 : z < 400) : (asI u (some 77) 20 (J z) v).bind f = f (sI u 77 z.toNat v) := s_asI (okF h rfl) rfl (by decide) h0 h1
theorem al_78 {z : Int} {f : Int32 → Option β} (h : SH u) (h0 : 0 ≤ z) (h1 : z < 400) : (alI u (some 78) 22 (J z)).bind f = f (mI u 78 z.toNat) := s_aI (okF h rfl) rfl (by decide) h0 h1
theorem as_78 {z : Int} {v : Int32} {f : Mem → Option β} (h : SH u) (h0 : 0 ≤ z) (h1 : z < 400) : (asI u (some 78) 22 (J z) v).bind f = f (sI u 78 z.toNat v) := s_asI (okF h rfl) rfl (by decide) h0 h1
theorem al_79 {z : Int} {f : Int32 → Option β} (h : SH u) (h0 : 0 ≤ z) (h1 : z < 6000) : (alI u (some 79) 22 (J z)).bind f = f (mI u 79 z.toNat) := s_aI (okF h rfl) rfl (by decide) h0 h1
theorem as_79 {z : Int} {v : Int32} {f : Mem → Option β} (h : SH u) (h0 : 0 ≤ z) (h1 : z < 6000) : (asI u (some 79) 22 (J z) v).bind f = f (sI u 79 z.toNat v) := s_asI (okF h rfl) rfl (by decide) h0 h1
theorem al_80 {z : Int} {f : Int32 → Option β} (h : SH u) (h0 : 0 ≤ z) (h1 : z < 20) : (alI u (some 80) 20 (J z)).bind f = f (mI u 80 z.toNat) := s_aI (okF h rfl) rfl (by decide) h0 h1
theorem as_80 {z : Int} {v : Int32} {f : Mem → Option β} (h : SH u) (h0 : 0 ≤ z) (h1 : z < 20) : (asI u (some 80) 20 (J z) v).bind f = f (sI u 80 z.toNat v) := s_asI (okF h rfl) rfl (by decide) h0 h1
theorem al_81 {z : Int} {f : Int32 → Option β} (h : SH u) (h0 : 0 ≤ z) (h1 : z < 20) : (alI u (some 81) 20 (J z)).bind f = f (mI u 81 z.toNat) := s_aI (okF h rfl) rfl (by decide) h0 h1
theorem as_81 {z : Int} {v : Int32} {f : Mem → Option β} (h : SH u) (h0 : 0 ≤ z) (h1 : z < 20) : (asI u (some 81) 20 (J z) v).bind f = f (sI u 81 z.toNat v) := s_asI (okF h rfl) rfl (by decide) h0 h1
theorem al_82 {z : Int} {f : Int32 → Option β} (h : SH u) (h0 : 0 ≤ z) (h1 : z < 11) : (alI u (some 82) 20 (J z)).bind f = f (mI u 82 z.toNat) := s_aI (okF h rfl) rfl (by decide) h0 h1
theorem as_82 {z : Int} {v : Int32} {f : Mem → Option β} (h : SH u) (h0 : 0 ≤ z) (h1 : z < 11) : (asI u (some 82) 20 (J z) v).bind f = f (sI u 82 z.toNat v) := s_asI (okF h rfl) rfl (by decide) h0 h1
theorem al_83 {z : Int} {f : Int64 → Option β} (h : SH u) (h0 : 0 ≤ z) (h1 : z < 21) : (alL u (some 83) 23 (J z)).bind f = f (mL u 83 z.toNat) := s_aL (okF h rfl) rfl (by decide) h0 h1
theorem as_83 {z : Int} {v : Int64} {f : Mem → Option β} (h : SH u) (h0 : 0 ≤ z) (h1 : z < 21) : (asL u (some 83) 23 (J z) v).bind f = f (sL u 83 z.toNat v) := s_asL (okF h rfl) rfl (by decide) h0 h1
theorem al_84 {z : Int} {f : Int32 → Option β} (h : SH u) (h0 : 0 ≤ z) (h1 : z < 20) : (alI u (some 84) 20 (J z)).bind f = f (mI u 84 z.toNat) := s_aI (okF h rfl) rfl (by decide) h0 h1
theorem as_84 {z : Int} {v : Int32} {f : Mem → Option β} (h : SH u) (h0 : 0 ≤ z) (h1 : z < 20) : (asI u (some 84) 20 (J z) v).bind f = f (sI u 84 z.toNat v) := s_asI (okF h rfl) rfl (by decide) h0 h1
theorem al_85 {z : Int} {f : Int32 → Option β} (h : SH u) (h0 : 0 ≤ z) (h1 : z < 20) : (alI u (some 85) 20 (J z)).bind f = f (mI u 85 z.toNat) := s_aI (okF h rfl) rfl (by decide) h0 h1
theorem as_85 {z : Int} {v : Int32} {f : Mem → Option β} (h : SH u) (h0 : 0 ≤ z) (h1 : z < 20) : (asI u (some 85) 20 (J z) v).bind f = f (sI u 85 z.toNat v) := s_asI (okF h rfl) rfl (by decide) h0 h1
theorem al_86 {z : Int} {f : Int32 → Option β} (h : SH u) (h0 : 0 ≤ z) (h1 : z < 20) : (alI u (some 86) 20 (J z)).bind f = f (mI u 86 z.toNat) := s_aI (okF h rfl) rfl (by decide) h0 h1
theorem as_86 {z : Int} {v : Int32} {f : Mem → Option β} (h : SH u) (h0 : 0 ≤ z) (h1 : z < 20) : (asI u (some 86) 20 (J z) v).bind f = f (sI u 86 z.toNat v) := s_asI (okF h rfl) rfl (by decide) h0 h1
theorem al_87 {z : Int} {f : Int32 → Option β} (h : SH u) (h0 : 0 ≤ z) (h1 : z < 20) : (alI u (some 87) 20 (J z)).bind f = f (mI u 87 z.toNat) := s_aI (okF h rfl) rfl (by decide) h0 h1
theorem as_87 {z : Int} {v : Int32} {f : Mem → Option β} (h : SH u) (h0 : 0 ≤ z) (h1 : z < 20) : (asI u (some 87) 20 (J z) v).bind f = f (sI u 87 z.toNat v) := s_asI (okF h rfl) rfl (by decide) h0 h1
theorem gi_0 {f : Int32 → Option β} (h : SH u) : (gfI u (some 0) 10 k).bind f = f (mI u 0 k) := s_gI (okF h rfl)
theorem pi_0 {v : Int32} {f : Mem → Option β} (h : SH u) : (pfI u (some 0) 10 k v).bind f = f (sI u 0 k v) := s_pI (okF h rfl)
theorem ck_0 {f : Nat → Option β} (h : SH u) : (chk u (some 0) 10).bind f = f 0 := s_chk (okF h rfl)
theorem gi_1 {f : Int32 → Option β} (h : SH u) : (gfI u (some 1) 8 k).bind f = f (mI u 1 k) := s_gI (okF h rfl)
theorem pi_1 {v : Int32} {f : Mem → Option β} (h : SH u) : (pfI u (some 1) 8 k v).bind f = f (sI u 1 k v) := s_pI (okF h rfl)
theorem ck_1 {f : Nat → Option β} (h : SH u) : (chk u (some 1) 8).bind f = f 1 := s_chk (okF h rfl)
theorem gi_3 {f : Int32 → Option β} (h : SH u) : (gfI u (some 3) 6 k).bind f = f (mI u 3 k) := s_gI (okF h rfl)
theorem pi_3 {v : Int32} {f : Mem → Option β} (h : SH u) : (pfI u (some 3) 6 k v).bind f = f (sI u 3 k v) := s_pI (okF h rfl)
theorem ck_3 {f : Nat → Option β} (h : SH u) : (chk u (some 3) 6).bind f = f 3 := s_chk (okF h rfl)
theorem gi_4 {f : Int32 → Option β} (h : SH u) : (gfI u (some 4) 7 k).bind f = f (mI u 4 k) := s_gI (okF h rfl)
theorem pi_4 {v : Int32} {f : Mem → Option β} (h : SH u) : (pfI u (some 4) 7 k v).bind f = f (sI u 4 k v) := s_pI (okF h rfl)
theorem ck_4 {f : Nat → Option β} (h : SH u) : (chk u (some 4) 7).bind f = f 4 := s_chk (okF h rfl)
theorem gi_7 {f : Int32 → Option β} (h : SH u) : (gfI u (some 7) 7 k).bind f = f (mI u 7 k) := s_gI (okF h rfl)
theorem pi_7 {v : Int32} {f : Mem → Option β} (h : SH u) : (pfI u (some 7) 7 k v).bind f = f (sI u 7 k v) := s_pI (okF h rfl)
theorem ck_7 {f : Nat → Option β} (h : SH u) : (chk u (some 7) 7).bind f = f 7 := s_chk (okF h rfl)
theorem gi_10 {f : Int32 → Option β} (h : SH u) : (gfI u (some 10) 0 k).bind f = f (mI u 10 k) := s_gI (okF h rfl)
theorem pi_10 {v : Int32} {f : Mem → Option β} (h : SH u) : (pfI u (some 10) 0 k v).bind f = f (sI u 10 k v) := s_pI (okF h rfl)
theorem ck_10 {f : Nat → Option β} (h : SH u) : (chk u (some 10) 0).bind f = f 10 := s_chk (okF h rfl)
theorem gi_34 {f : Int32 → Option β} (h : SH u) : (gfI u (some 34) 1 k).bind f = f (mI u 34 k) := s_gI (okF h rfl)
theorem pi_34 {v : Int32} {f : Mem → Option β} (h : SH u) : (pfI u (some 34) 1 k v).bind f = f (sI u 34 k v) := s_pI (okF h rfl)
theorem ck_34 {f : Nat → Option β} (h : SH u) : (chk u (some 34) 1).bind f = f 34 := s_chk (okF h rfl)
theorem gi_39 {f : Int32 → Option β} (h : SH u) : (gfI u (some 39) 2 k).bind f = f (mI u 39 k) := s_gI (okF h rfl)
theorem pi_39 {v : Int32} {f : Mem → Option β} (h : SH u) : (pfI u (some 39) 2 k v).bind f = f (sI u 39 k v) := s_pI (okF h rfl)
theorem ck_39 {f : Nat → Option β} (h : SH u) : (chk u (some 39) 2).bind f = f 39 := s_chk (okF h rfl)
theorem gi_45 {f : Int32 → Option β} (h : SH u) : (gfI u (some 45) 9 k).bind f = f (mI u 45 k) := s_gI (okF h rfl)
theorem pi_45 {v : Int32} {f : Mem → Option β} (h : SH u) : (pfI u (some 45) 9 k v).bind f = f (sI u 45 k v) := s_pI (okF h rfl)
theorem ck_45 {f : Nat → Option β} (h : SH u) : (chk u (some 45) 9).bind f = f 45 := s_chk (okF h rfl)
theorem gi_49 {f : Int32 → Option β} (h : SH u) : (gfI u (some 49) 4 k).bind f = f (mI u 49 k) := s_gI (okF h rfl)
theorem pi_49 {v : Int32} {f : Mem → Option β} (h : SH u) : (pfI u (some 49) 4 k v).bind f = f (sI u 49 k v) := s_pI (okF h rfl)
theorem ck_49 {f : Nat → Option β} (h : SH u) : (chk u (some 49) 4).bind f = f 49 := s_chk (okF h rfl)
theorem gi_55 {f : Int32 → Option β} (h : SH u) : (gfI u (some 55) 12 k).bind f = f (mI u 55 k) := s_gI (okF h rfl)
theorem pi_55 {v : Int32} {f : Mem → Option β} (h : SH u) : (pfI u (some 55) 12 k v).bind f = f (sI u 55 k v) := s_pI (okF h rfl)
theorem ck_55 {f : Nat → Option β} (h : SH u) : (chk u (some 55) 12).bind f = f 55 := s_chk (okF h rfl)
theorem gi_60 {f : Int32 → Option β} (h : SH u) : (gfI u (some 60) 11 k).bind f = f (mI u 60 k) := s_gI (okF h rfl)
theorem pi_60 {v : Int32} {f : Mem → Option β} (h : SH u) : (pfI u (some 60) 11 k v).bind f = f (sI u 60 k v) := s_pI (okF h rfl)
theorem ck_60 {f : Nat → Option β} (h : SH u) : (chk u (some 60) 11).bind f = f 60 := s_chk (okF h rfl)
theorem gi_q {q : Nat} {f : Int32 → Option β} (h : SH u) (hq : q < 20) : (gfI u (some (14 + q)) 5 k).bind f = f (mI u (14 + q) k) := s_gI (ok_q h hq)
theorem pi_q {q : Nat} {v : Int32} {f : Mem → Option β} (h : SH u) (hq : q < 20) : (pfI u (some (14 + q)) 5 k v).bind f = f (sI u (14 + q) k v) := s_pI (ok_q h hq)
theorem ck_q {q : Nat} {f : Nat → Option β} (h : SH u) (hq : q < 20) : (chk u (some (14 + q)) 5).bind f = f (14 + q) := s_chk (ok_q h hq)
theorem gi_gs {i : Nat} {f : Int32 → Option β} (hi : 88 + i < mN u) : (gfI u (some (88 + i)) 3 k).bind f = f (mI u (88 + i) k) := s_gI (ok_g hi)
theorem gr_gs {i : Nat} {f : Option Nat → Option β} (hi : 88 + i < mN u) : (gfR u (some (88 + i)) 3 k).bind f = f (mR u (88 + i) k) := s_gR (ok_g hi)
end STEP
