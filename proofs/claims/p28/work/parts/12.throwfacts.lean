theorem x4_ISE : ∀ w ∈ (vx_atS RX6 44 "java/lang/IllegalStateException" zNm).filter goodWord, w ∈ lw_tbl := by decide +kernel
theorem th_ISE : zTh RX6 "java/lang/IllegalStateException" 40 44 := ⟨by decide +kernel, kl_RX6_40, ini_IllegalStateException, fun w h => List.mem_filter.mpr ⟨x4_ISE w h, (List.mem_filter.mp h).2⟩, by decide +kernel, by decide +kernel, by decide +kernel⟩
theorem x4_IAE : ∀ w ∈ (vx_atS RX6 130 "java/lang/IllegalArgumentException" zNm).filter goodWord, w ∈ lw_tbl := by decide +kernel
theorem th_IAE : zTh RX6 "java/lang/IllegalArgumentException" 126 130 := ⟨by decide +kernel, kl_RX6_126, ini_IllegalArgumentException, fun w h => List.mem_filter.mpr ⟨x4_IAE w h, (List.mem_filter.mp h).2⟩, by decide +kernel, by decide +kernel, by decide +kernel⟩
theorem x4_IOE : ∀ w ∈ (vx_atS RX6 72 "java/lang/IndexOutOfBoundsException" zNm).filter goodWord, w ∈ lw_tbl := by decide +kernel
theorem th_IOE : zTh RX6 "java/lang/IndexOutOfBoundsException" 68 72 := ⟨by decide +kernel, kl_RX6_68, ini_IndexOutOfBoundsException, fun w h => List.mem_filter.mpr ⟨x4_IOE w h, (List.mem_filter.mp h).2⟩, by decide +kernel, by decide +kernel, by decide +kernel⟩
