/-! PART 21.11: what the journals do. -/
/-! redo -/
def zj_146_te : zA_T := ([], zHT, [(0, (2, (.ofNat 3)))], [], 0, 0)
theorem zj_146_0 : zjXs zjDC zj_146_te (some ((.negSucc 4), (.ofNat 39))) 6000 146 4 zjpR 0 19 = true := by decide +kernel
theorem zj_146_1 : zjXs zjDC zj_146_te (some ((.negSucc 4), (.ofNat 39))) 6000 146 4 zjpR 19 19 = true := by decide +kernel
theorem zj_146_2 : zjXs zjDC zj_146_te (some ((.negSucc 4), (.ofNat 39))) 6000 146 4 zjpR 38 3 = true := by decide +kernel
theorem zj_146_c : zConJ 146 4 zj_146_te (some ((.negSucc 4), (.ofNat 39))) := zConJ_of (n := 6000) zjDC zjDM zjpR (by decide) (fun φ h => h) (fun φ h1 h2 => ⟨h1, h2⟩) rfl (by decide +kernel) (by decide +kernel) (by decide) (by decide) (by decide) (fun u hu => by
  by_cases h0 : u < 19
  · exact zjXs_g zj_146_0 u (by omega) (by omega)
  by_cases h1 : u < 38
  · exact zjXs_g zj_146_1 u (by omega) (by omega)
  exact zjXs_g zj_146_2 u (by omega) (by omega))
/-! becomes -/
def zj_187_0_te : zA_T := ([((.ofNat 0), (.ofNat 39), zD0), ((.negSucc 2147483647), (.ofNat 2147483647), zD0)], zHT, [(0, (2, (.ofNat 46))), (1, (1, (.ofNat 0))), (2, (1, (.ofNat 1)))], [], 0, 0)
theorem zj_187_0_0 : zjXs zjDM zj_187_0_te (some ((.negSucc 2147483647), (.ofNat 2147483647))) 6000 187 2 zjpM 0 39 = true := by decide +kernel
theorem zj_187_0_1 : zjXs zjDM zj_187_0_te (some ((.negSucc 2147483647), (.ofNat 2147483647))) 6000 187 2 zjpM 39 2 = true := by decide +kernel
theorem zj_187_0_c : zConJ 187 2 zj_187_0_te (some ((.negSucc 2147483647), (.ofNat 2147483647))) := zConJ_of (n := 6000) zjDM zjDC zjpM (by decide) (fun φ h => ⟨h.2, h.1⟩) (fun φ h1 h2 => ⟨h2, h1⟩) rfl (by decide +kernel) (by decide +kernel) (by decide) (by decide) (by decide) (fun u hu => by
  by_cases h0 : u < 39
  · exact zjXs_g zj_187_0_0 u (by omega) (by omega)
  exact zjXs_g zj_187_0_1 u (by omega) (by omega))
/-! becomes -/
def zj_187_1_te : zA_T := ([((.ofNat 1), (.ofNat 9), zD0)], zHT, [(0, (2, (.ofNat 46))), (1, (0, (.ofNat 40))), (2, (1, (.ofNat 0)))], [], 0, 0)
theorem zj_187_1_0 : zjXs zjDM zj_187_1_te (some ((.ofNat 1), (.ofNat 9))) 6000 187 2 zjpM 0 39 = true := by decide +kernel
theorem zj_187_1_1 : zjXs zjDM zj_187_1_te (some ((.ofNat 1), (.ofNat 9))) 6000 187 2 zjpM 39 2 = true := by decide +kernel
theorem zj_187_1_c : zConJ 187 2 zj_187_1_te (some ((.ofNat 1), (.ofNat 9))) := zConJ_of (n := 6000) zjDM zjDC zjpM (by decide) (fun φ h => ⟨h.2, h.1⟩) (fun φ h1 h2 => ⟨h2, h1⟩) rfl (by decide +kernel) (by decide +kernel) (by decide) (by decide) (by decide) (fun u hu => by
  by_cases h0 : u < 39
  · exact zjXs_g zj_187_1_0 u (by omega) (by omega)
  exact zjXs_g zj_187_1_1 u (by omega) (by omega))
