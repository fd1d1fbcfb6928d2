/-! PART 21.14: what the journals do. -/
/-! undo -/
def zj_176_te : zA_T := ([], zHT, [(0, (2, (.ofNat 46)))], [], 0, 0)
theorem zj_176_0 : zjXs zjDM zj_176_te (some ((.negSucc 4), (.ofNat 39))) 6000 176 2 zjpU 0 30 = true := by decide +kernel
theorem zj_176_1 : zjXs zjDM zj_176_te (some ((.negSucc 4), (.ofNat 39))) 6000 176 2 zjpU 30 11 = true := by decide +kernel
theorem zj_176_c : zConJ 176 2 zj_176_te (some ((.negSucc 4), (.ofNat 39))) := zConJ_of (n := 6000) zjDM zjDC zjpU (by decide) (fun φ h => ⟨h.2.1, h.1⟩) (fun φ h1 h2 h3 => ⟨h2, h1, h3⟩) (by decide +kernel) rfl (by decide +kernel) (by decide +kernel) (by decide) (by decide) (by decide) (fun u hu => by
  by_cases h0 : u < 30
  · exact zjXs_g zj_176_0 u (by omega) (by omega)
  exact zjXs_g zj_176_1 u (by omega) (by omega))
/-! redo -/
def zj_177_te : zA_T := ([], zHT, [(0, (2, (.ofNat 46)))], [], 0, 0)
theorem zj_177_0 : zjXs zjDM zj_177_te (some ((.negSucc 4), (.ofNat 39))) 6000 177 2 zjpR 0 23 = true := by decide +kernel
theorem zj_177_1 : zjXs zjDM zj_177_te (some ((.negSucc 4), (.ofNat 39))) 6000 177 2 zjpR 23 18 = true := by decide +kernel
theorem zj_177_c : zConJ 177 2 zj_177_te (some ((.negSucc 4), (.ofNat 39))) := zConJ_of (n := 6000) zjDM zjDC zjpR (by decide) (fun φ h => ⟨h.2.1, h.1⟩) (fun φ h1 h2 h3 => ⟨h2, h1, h3⟩) (by decide +kernel) rfl (by decide +kernel) (by decide +kernel) (by decide) (by decide) (by decide) (fun u hu => by
  by_cases h0 : u < 23
  · exact zjXs_g zj_177_0 u (by omega) (by omega)
  exact zjXs_g zj_177_1 u (by omega) (by omega))
