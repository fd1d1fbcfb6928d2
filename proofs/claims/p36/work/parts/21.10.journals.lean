/-! PART 21.10: what the journals do. -/
def zjpM (_ : Nat) : Nat := 40
def zjpU (u : Nat) : Nat := if u = 0 then 40 else u - 1
def zjpR (u : Nat) : Nat := u
/-! remember -/
def zj_29_0_te : zA_T := ([((.ofNat 0), (.ofNat 1), zD0), ((.ofNat 0), (.ofNat 7), zD0), ((.negSucc 2147483647), (.ofNat 2147483647), zD0), ((.negSucc 2147483647), (.ofNat 2147483647), zD0)], zHT, [(0, (2, (.ofNat 25))), (1, (1, (.ofNat 0))), (2, (1, (.ofNat 1))), (3, (1, (.ofNat 2))), (4, (1, (.ofNat 3)))], [], 0, 0)
theorem zj_29_0_0 : zjXs zjDC zj_29_0_te none 6000 29 4 zjpM 0 38 = true := by decide +kernel
theorem zj_29_0_1 : zjXs zjDC zj_29_0_te none 6000 29 4 zjpM 38 3 = true := by decide +kernel
theorem zj_29_0_c : zConJ 29 4 zj_29_0_te none := zConJ_of (n := 6000) zjDC zjDM zjpM (by decide) (fun φ h => ⟨h.1, h.2.1⟩) (fun φ h1 h2 h3 => ⟨h1, h2, h3⟩) (by decide +kernel) rfl (by decide +kernel) (by decide +kernel) (by decide) (by decide) (by decide) (fun u hu => by
  by_cases h0 : u < 38
  · exact zjXs_g zj_29_0_0 u (by omega) (by omega)
  exact zjXs_g zj_29_0_1 u (by omega) (by omega))
/-! remember -/
def zj_29_1_te : zA_T := ([((.ofNat 0), (.ofNat 23), zD0), ((.negSucc 2147483647), (.ofNat 2147483647), zD0), ((.negSucc 2147483647), (.ofNat 2147483647), zD0)], zHT, [(0, (2, (.ofNat 25))), (1, (0, (.ofNat 2))), (2, (1, (.ofNat 0))), (3, (1, (.ofNat 1))), (4, (1, (.ofNat 2)))], [], 0, 0)
theorem zj_29_1_0 : zjXs zjDC zj_29_1_te none 6000 29 4 zjpM 0 38 = true := by decide +kernel
theorem zj_29_1_1 : zjXs zjDC zj_29_1_te none 6000 29 4 zjpM 38 3 = true := by decide +kernel
theorem zj_29_1_c : zConJ 29 4 zj_29_1_te none := zConJ_of (n := 6000) zjDC zjDM zjpM (by decide) (fun φ h => ⟨h.1, h.2.1⟩) (fun φ h1 h2 h3 => ⟨h1, h2, h3⟩) (by decide +kernel) rfl (by decide +kernel) (by decide +kernel) (by decide) (by decide) (by decide) (fun u hu => by
  by_cases h0 : u < 38
  · exact zjXs_g zj_29_1_0 u (by omega) (by omega)
  exact zjXs_g zj_29_1_1 u (by omega) (by omega))
/-! remember -/
def zj_29_2_te : zA_T := ([((.negSucc 2147483647), (.ofNat 2147483647), zD0), ((.negSucc 2147483647), (.ofNat 2147483647), zD0), ((.negSucc 2147483647), (.ofNat 2147483647), zD0)], zHT, [(0, (2, (.ofNat 25))), (1, (0, (.ofNat 3))), (2, (1, (.ofNat 0))), (3, (1, (.ofNat 1))), (4, (1, (.ofNat 2)))], [], 0, 0)
theorem zj_29_2_0 : zjXs zjDC zj_29_2_te none 6000 29 4 zjpM 0 38 = true := by decide +kernel
theorem zj_29_2_1 : zjXs zjDC zj_29_2_te none 6000 29 4 zjpM 38 3 = true := by decide +kernel
theorem zj_29_2_c : zConJ 29 4 zj_29_2_te none := zConJ_of (n := 6000) zjDC zjDM zjpM (by decide) (fun φ h => ⟨h.1, h.2.1⟩) (fun φ h1 h2 h3 => ⟨h1, h2, h3⟩) (by decide +kernel) rfl (by decide +kernel) (by decide +kernel) (by decide) (by decide) (by decide) (fun u hu => by
  by_cases h0 : u < 38
  · exact zjXs_g zj_29_2_0 u (by omega) (by omega)
  exact zjXs_g zj_29_2_1 u (by omega) (by omega))
/-! undo -/
def zj_144_te : zA_T := ([], zHT, [(0, (2, (.ofNat 3)))], [], 0, 0)
theorem zj_144_0 : zjXs zjDC zj_144_te (some ((.negSucc 4), (.ofNat 39))) 6000 144 4 zjpU 0 11 = true := by decide +kernel
theorem zj_144_1 : zjXs zjDC zj_144_te (some ((.negSucc 4), (.ofNat 39))) 6000 144 4 zjpU 11 10 = true := by decide +kernel
theorem zj_144_2 : zjXs zjDC zj_144_te (some ((.negSucc 4), (.ofNat 39))) 6000 144 4 zjpU 21 10 = true := by decide +kernel
theorem zj_144_3 : zjXs zjDC zj_144_te (some ((.negSucc 4), (.ofNat 39))) 6000 144 4 zjpU 31 10 = true := by decide +kernel
theorem zj_144_c : zConJ 144 4 zj_144_te (some ((.negSucc 4), (.ofNat 39))) := zConJ_of (n := 6000) zjDC zjDM zjpU (by decide) (fun φ h => ⟨h.1, h.2.1⟩) (fun φ h1 h2 h3 => ⟨h1, h2, h3⟩) (by decide +kernel) rfl (by decide +kernel) (by decide +kernel) (by decide) (by decide) (by decide) (fun u hu => by
  by_cases h0 : u < 11
  · exact zjXs_g zj_144_0 u (by omega) (by omega)
  by_cases h1 : u < 21
  · exact zjXs_g zj_144_1 u (by omega) (by omega)
  by_cases h2 : u < 31
  · exact zjXs_g zj_144_2 u (by omega) (by omega)
  exact zjXs_g zj_144_3 u (by omega) (by omega))
