/-! the rows of memory once more, so that the kernel needn't unfold -/
theorem nI_sI (u : Mem) (a k : Nat) (v : Int32) (b j : Nat) : mI (sI u a k v) b j = if b = a ∧ j = k then v else mI u b j := by
  have h := mI_sI u a k v b j
  rw [h]
theorem nI_sR (u : Mem) (a k : Nat) (v : Option Nat) (b j : Nat) : mI (sR u a k v) b j = mI u b j := by
  have h := mI_sR u a k v b j
  rw [h]
theorem nR_sI (u : Mem) (a k : Nat) (v : Int32) (b j : Nat) : mR (sI u a k v) b j = mR u b j := by
  have h := mR_sI u a k v b j
  rw [h]
theorem nR_sR (u : Mem) (a k : Nat) (v : Option Nat) (b j : Nat) : mR (sR u a k v) b j = if b = a ∧ j = k then v else mR u b j := by
  have h := mR_sR u a k v b j
  rw [h]
theorem nN_sI (u : Mem) (a k : Nat) (v : Int32) : mN (sI u a k v) = mN u := by
  have h := mN_sI u a k v
  rw [h]
theorem nN_sR (u : Mem) (a k : Nat) (v : Option Nat) : mN (sR u a k v) = mN u := by
  have h := mN_sR u a k v
  rw [h]
theorem nN_sL (u : Mem) (a k : Nat) (v : Int64) : mN (sL u a k v) = mN u := by
  have h := mN_sL u a k v
  rw [h]
theorem SH_sIi (u : Mem) (a k : Nat) (v : Int32) : SH (sI u a k v) ↔ SH u := ⟨fun h => h, fun h => h⟩
theorem SH_sLi (u : Mem) (a k : Nat) (v : Int64) : SH (sL u a k v) ↔ SH u := ⟨fun h => h, fun h => h⟩
theorem lg_ltJ (a b : Int) (h1 : -9223372036854775808 ≤ a) (h2 : a < 9223372036854775808) (h3 : -9223372036854775808 ≤ b) (h4 : b < 9223372036854775808) : (lg_cmp (K a) (K b) < J 0) ↔ (a < b) := lg_lt a b h1 h2 h3 h4
theorem lg_gtJ (a b : Int) (h1 : -9223372036854775808 ≤ a) (h2 : a < 9223372036854775808) (h3 : -9223372036854775808 ≤ b) (h4 : b < 9223372036854775808) : (J 0 < lg_cmp (K a) (K b)) ↔ (b < a) := lg_gt a b h1 h2 h3 h4
theorem lg_eqJ (a b : Int) (h1 : -9223372036854775808 ≤ a) (h2 : a < 9223372036854775808) (h3 : -9223372036854775808 ≤ b) (h4 : b < 9223372036854775808) : (lg_cmp (K a) (K b) = J 0) ↔ (a = b) := lg_eq a b h1 h2 h3 h4
