theorem zCl_0 : zCl 0 := by
  intro q hq
  cases hq
  exact ⟨by decide +kernel, ⟨tyX0, tyX0_ok⟩, nmX0⟩
theorem zCl_1 : zCl 1 := by
  intro q hq
  cases hq
  exact ⟨by decide +kernel, ⟨tyX1, tyX1_ok⟩, nmX1⟩
theorem zCl_2 : zCl 2 := by
  intro q hq
  cases hq
  exact ⟨by decide +kernel, ⟨tyX2, tyX2_ok⟩, nmX2⟩
theorem zCl_3 : zCl 3 := by
  intro q hq
  cases hq
  exact ⟨by decide +kernel, ⟨tyX3, tyX3_ok⟩, nmX3⟩
theorem zCl_4 : zCl 4 := by
  intro q hq
  cases hq
  exact ⟨by decide +kernel, ⟨tyX4, tyX4_ok⟩, nmX4⟩
theorem zCl_5 : zCl 5 := by
  intro q hq
  cases hq
  exact ⟨by decide +kernel, ⟨tyX5, tyX5_ok⟩, nmX5⟩
theorem zCl_6 : zCl 6 := by
  intro q hq
  cases hq
  exact ⟨by decide +kernel, ⟨tyX6, tyX6_ok⟩, nmX6⟩
theorem zCl_7 : zCl 7 := by
  intro q hq
  cases hq
  exact ⟨by decide +kernel, ⟨tyX8, tyX8_ok⟩, nmX8⟩
theorem zCl_8 : zCl 8 := by
  intro q hq
  cases hq
  exact ⟨by decide +kernel, ⟨tyX9, tyX9_ok⟩, nmX9⟩
theorem zCl_9 : zCl 9 := by
  intro q hq
  cases hq
  exact ⟨by decide +kernel, ⟨tyX10, tyX10_ok⟩, nmX10⟩
