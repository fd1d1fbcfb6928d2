/-! PART 21.11: what the journals do. -/
/-! redo -/
def zj_146_te : zA_T := ([], zHT, [(0, (2, (.ofNat 3)))], [], 0, 0)
theorem zj_146_0 : zjXs zjDC zj_146_te (some ((.negSucc 4), (.ofNat 39))) 6000 146 4 zjpR 0 8 = true := by decide +kernel
theorem zj_146_1 : zjXs zjDC zj_146_te (some ((.negSucc 4), (.ofNat 39))) 6000 146 4 zjpR 8 8 = true := by decide +kernel
theorem zj_146_2 : zjXs zjDC zj_146_te (some ((.negSucc 4), (.ofNat 39))) 6000 146 4 zjpR 16 8 = true := by decide +kernel
theorem zj_146_3 : zjXs zjDC zj_146_te (some ((.negSucc 4), (.ofNat 39))) 6000 146 4 zjpR 24 8 = true := by decide +kernel
theorem zj_146_4 : zjXs zjDC zj_146_te (some ((.negSucc 4), (.ofNat 39))) 6000 146 4 zjpR 32 9 = true := by decide +kernel
theorem zj_146_c : zConJ 146 4 zj_146_te (some ((.negSucc 4), (.ofNat 39))) := zConJ_of (n := 6000) zjDC zjDM zjpR (by decide) (fun φ h => ⟨h.1, h.2.1⟩) (fun φ h1 h2 h3 => ⟨h1, h2, h3⟩) (by decide +kernel) rfl (by decide +kernel) (by decide +kernel) (by decide) (by decide) (by decide) (fun u hu => by
  by_cases h0 : u < 8
  · exact zjXs_g zj_146_0 u (by omega) (by omega)
  by_cases h1 : u < 16
  · exact zjXs_g zj_146_1 u (by omega) (by omega)
  by_cases h2 : u < 24
  · exact zjXs_g zj_146_2 u (by omega) (by omega)
  by_cases h3 : u < 32
  · exact zjXs_g zj_146_3 u (by omega) (by omega)
  exact zjXs_g zj_146_4 u (by omega) (by omega))
