/-! what a new object holds -/
theorem df0 : ∀ j, j < 8 → defaultValue (tyX0 j) = vp_V (dfl (fR 0)) j := by decide +kernel
theorem df1 : ∀ j, j < 6 → defaultValue (tyX1 j) = vp_V (dfl (fR 1)) j := by decide +kernel
theorem df2 : ∀ j, j < 8 → defaultValue (tyX2 j) = vp_V (dfl (fR 2)) j := by decide +kernel
theorem df3 : ∀ j, j < 19 → defaultValue (tyX3 j) = vp_V (dfl (fR 3)) j := by decide +kernel
theorem df4 : ∀ j, j < 8 → defaultValue (tyX4 j) = vp_V (dfl (fR 4)) j := by decide +kernel
theorem df5 : ∀ j, j < 5 → defaultValue (tyX5 j) = vp_V (dfl (fR 5)) j := by decide +kernel
theorem df6 : ∀ j, j < 8 → defaultValue (tyX6 j) = vp_V (dfl (fR 6)) j := by decide +kernel
theorem df7 : ∀ j, j < 8 → defaultValue (tyX7 j) = vp_V (dfl (fR 7)) j := by decide +kernel
theorem df8 : ∀ j, j < 8 → defaultValue (tyX8 j) = vp_V (dfl (fR 8)) j := by decide +kernel
theorem df9 : ∀ j, j < 8 → defaultValue (tyX9 j) = vp_V (dfl (fR 9)) j := by decide +kernel
theorem df10 : ∀ j, j < 8 → defaultValue (tyX10 j) = vp_V (dfl (fR 10)) j := by decide +kernel
theorem df11 : ∀ j, j < 5 → defaultValue (tyX11 j) = vp_V (dfl (fR 11)) j := by decide +kernel
theorem df12 : ∀ j, j < 30 → defaultValue (tyX12 j) = vp_V (dfl (fR 12)) j := by decide +kernel
