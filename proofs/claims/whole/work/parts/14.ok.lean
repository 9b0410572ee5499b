/-! classes; the way out of a switch -/
theorem okX0 : clsOK 0 RX0 TX0 6 := ⟨by decide, rfl, igX0, tyX0_ok, nmX0⟩
theorem okX1 : clsOK 1 RX1 TX1 7 := ⟨by decide, rfl, igX1, tyX1_ok, nmX1⟩
theorem okX2 : clsOK 2 RX2 TX2 11 := ⟨by decide, rfl, igX2, tyX2_ok, nmX2⟩
theorem okX3 : clsOK 3 RX3 TX3 5 := ⟨by decide, rfl, igX3, tyX3_ok, nmX3⟩
theorem okX4 : clsOK 4 RX4 TX4 9 := ⟨by decide, rfl, igX4, tyX4_ok, nmX4⟩
theorem okX5 : clsOK 5 RX5 TX5 5 := ⟨by decide, rfl, igX5, tyX5_ok, nmX5⟩
theorem okX6 : clsOK 6 RX6 TX6 12 := ⟨by decide, rfl, igX6, tyX6_ok, nmX6⟩
theorem okX7 : clsOK 7 RX7 TX7 7 := ⟨by decide, rfl, igX7, tyX7_ok, nmX7⟩
theorem okX8 : clsOK 8 RX8 TX8 2 := ⟨by decide, rfl, igX8, tyX8_ok, nmX8⟩
theorem okX9 : clsOK 9 RX9 TX9 5 := ⟨by decide, rfl, igX9, tyX9_ok, nmX9⟩
theorem okX10 : clsOK 10 RX10 TX10 8 := ⟨by decide, rfl, igX10, tyX10_ok, nmX10⟩
theorem okX11 : clsOK 11 RX11 TX11 6 := ⟨by decide, rfl, igX11, tyX11_ok, nmX11⟩
theorem okX12 : clsOK 12 RX12 TX12 56 := ⟨by decide, rfl, igX12, tyX12_ok, nmX12⟩
theorem sw_out {x : Int32} {n : Nat} (h : ∀ j : Nat, j < n + 1 → ¬ x = Int32.ofNat j) : x.toInt < 0 ∨ (n : Int) < x.toInt := by
  rcases Int.lt_or_le x.toInt 0 with h0 | h0
  · exact Or.inl h0
  · rcases Int.lt_or_le (n : Int) x.toInt with h1 | h1
    · exact Or.inr h1
    · exfalso
      have hj : x.toInt.toNat < n + 1 := by omega
      refine h x.toInt.toNat hj ?_
      apply Int32.toInt_inj.mp
      have hx : x.toInt < 2 ^ 31 := Int32.toInt_lt x
      have h2 : (Int32.ofNat x.toInt.toNat).toInt = (x.toInt.toNat : Int) := nI_toInt (by omega)
      rw [h2]
      omega
