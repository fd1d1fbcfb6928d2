/-! PART 21.13: what the journals do. -/
/-! becomes -/
def zj_187_1_te : zA_T := ([((.ofNat 1), (.ofNat 9), zD0)], zHT, [(0, (2, (.ofNat 46))), (1, (0, (.ofNat 40))), (2, (1, (.ofNat 0)))], [], 0, 0)
theorem zj_187_1_0 : zjXs zjDM zj_187_1_te (some ((.ofNat 1), (.ofNat 9))) 6000 187 2 zjpM 0 17 = true := by decide +kernel
theorem zj_187_1_1 : zjXs zjDM zj_187_1_te (some ((.ofNat 1), (.ofNat 9))) 6000 187 2 zjpM 17 17 = true := by decide +kernel
theorem zj_187_1_2 : zjXs zjDM zj_187_1_te (some ((.ofNat 1), (.ofNat 9))) 6000 187 2 zjpM 34 6 = true := by decide +kernel
theorem zj_187_1_3 : zjXs zjDM zj_187_1_te (some ((.ofNat 1), (.ofNat 9))) 6000 187 2 zjpM 40 1 = true := by decide +kernel
theorem zj_187_1_c : zConJ 187 2 zj_187_1_te (some ((.ofNat 1), (.ofNat 9))) := zConJ_of (n := 6000) zjDM zjDC zjpM (by decide) (fun φ h => ⟨h.2.1, h.1⟩) (fun φ h1 h2 h3 => ⟨h2, h1, h3⟩) (by decide +kernel) rfl (by decide +kernel) (by decide +kernel) (by decide) (by decide) (by decide) (fun u hu => by
  by_cases h0 : u < 17
  · exact zjXs_g zj_187_1_0 u (by omega) (by omega)
  by_cases h1 : u < 34
  · exact zjXs_g zj_187_1_1 u (by omega) (by omega)
  by_cases h2 : u < 40
  · exact zjXs_g zj_187_1_2 u (by omega) (by omega)
  exact zjXs_g zj_187_1_3 u (by omega) (by omega))
