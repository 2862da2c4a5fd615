theorem m_tail (fz : Nat) {b j n pvb epv cP d e0 : Nat} (hb : b < 2) (hj : j < 32) (he0 : e0 < 8) (hn : n < 300) (hpv : pvb ≤ n) (hepv : epv ≤ n) (z y46 : Int32) (h : HH) (f47 : h 47 b = nI pvb) (f46 : h 46 b = y46) (f31 : h 31 pvb = nI epv) (f0 : h 27 0 = nI n) (f11 : h 27 11 = nI n) (hpd : P_M_pending fz (nI b) (nI j) (nI j) (u2 (u2 (u2 h 36 (8 * b + e0) 1) 27 11 (nI (n + 1))) 37 (8 * b + e0) (nI (n + 1))) ∧ B_M_pending fz (nI b) (nI j) (nI j) (u2 (u2 (u2 h 36 (8 * b + e0) 1) 27 11 (nI (n + 1))) 37 (8 * b + e0) (nI (n + 1))) = nI cP ∧ cP ≤ 300) (hd : (d = 1 ∧ (pvb = 0 ∨ y46 ≠ 0 ∨ 0 < cP)) ∨ (d = 0 ∧ pvb ≠ 0 ∧ y46 = 0 ∧ cP = 0)) : (P_M_write_283 fz (nI b) (nI (n + 1)) (u2 (u2 (u2 (u2 (u2 (u2 (u2 (u2 (u2 (u2 (u2 h 36 (8 * b + e0) 1) 27 11 (nI (n + 1))) 37 (8 * b + e0) (nI (n + 1))) 27 0 (nI (n + 1))) 28 (n + 1) (nI b)) 29 (n + 1) (nI j)) 30 (n + 1) z) 31 (n + 1) (nI (epv + d))) 47 b (nI (n + 1))) 46 b 0) 34 (32 * b + j) z) → P_M_write_123 fz (nI b) (nI j) z (nI (8 * b + e0)) h) ∧ B_M_write_123 fz (nI b) (nI j) z (nI (8 * b + e0)) h = B_M_write_283 fz (nI b) (nI (n + 1)) (u2 (u2 (u2 (u2 (u2 (u2 (u2 (u2 (u2 (u2 (u2 h 36 (8 * b + e0) 1) 27 11 (nI (n + 1))) 37 (8 * b + e0) (nI (n + 1))) 27 0 (nI (n + 1))) 28 (n + 1) (nI b)) 29 (n + 1) (nI j)) 30 (n + 1) z) 31 (n + 1) (nI (epv + d))) 47 b (nI (n + 1))) 46 b 0) 34 (32 * b + j) z) := by
  have hxb : ix (nI b) = b := nI_clamp (by omega)
  have hvb : vp_in (nI b) 2 := vp_in_nI hb (by decide)
  have hxe : ix (nI (8 * b + e0)) = 8 * b + e0 := nI_clamp (by omega)
  have hve : vp_in (nI (8 * b + e0)) 16 := vp_in_nI (by omega) (by decide)
  have hxn : ix (nI (n + 1)) = n + 1 := nI_clamp (by omega)
  have hvn : vp_in (nI (n + 1)) 301 := vp_in_nI (by omega) (by decide)
  have hxp : ix (nI pvb) = pvb := nI_clamp (by omega)
  have hvp : vp_in (nI pvb) 301 := vp_in_nI (by omega) (by decide)
  have hx3 : ix (nI (32 * b + j)) = 32 * b + j := nI_clamp (by omega)
  have hv3 : vp_in (nI (32 * b + j)) 64 := vp_in_nI (by omega) (by decide)
  have a11 : (u2 h 36 (8 * b + e0) 1) 27 11 = nI n := f11
  have b11 : (u2 (u2 h 36 (8 * b + e0) 1) 27 11 (nI (n + 1))) 27 11 = nI (n + 1) := rfl
  have g47 : (u2 (u2 (u2 h 36 (8 * b + e0) 1) 27 11 (nI (n + 1))) 37 (8 * b + e0) (nI (n + 1))) 47 b = nI pvb := f47
  have g46 : (u2 (u2 (u2 h 36 (8 * b + e0) 1) 27 11 (nI (n + 1))) 37 (8 * b + e0) (nI (n + 1))) 46 b = y46 := f46
  have g0 : (u2 (u2 (u2 h 36 (8 * b + e0) 1) 27 11 (nI (n + 1))) 37 (8 * b + e0) (nI (n + 1))) 27 0 = nI n := f0
  have k0 : (u2 (u2 (u2 (u2 h 36 (8 * b + e0) 1) 27 11 (nI (n + 1))) 37 (8 * b + e0) (nI (n + 1))) 27 0 (nI (n + 1))) 27 0 = nI (n + 1) := rfl
  have k47 : (u2 (u2 (u2 (u2 (u2 (u2 (u2 h 36 (8 * b + e0) 1) 27 11 (nI (n + 1))) 37 (8 * b + e0) (nI (n + 1))) 27 0 (nI (n + 1))) 28 (n + 1) (nI b)) 29 (n + 1) (nI j)) 30 (n + 1) z) 47 b = nI pvb := f47
  have k31 : (u2 (u2 (u2 (u2 (u2 (u2 (u2 h 36 (8 * b + e0) 1) 27 11 (nI (n + 1))) 37 (8 * b + e0) (nI (n + 1))) 27 0 (nI (n + 1))) 28 (n + 1) (nI b)) 29 (n + 1) (nI j)) 30 (n + 1) z) 31 pvb = nI epv := f31
  have ep0 : nI epv + (0 : Int32) = nI (epv + 0) := by rw [li0, nI_add]
  have ep1 : nI epv + (1 : Int32) = nI (epv + 1) := nI_1 epv
  have kp : nI pvb = 0 ↔ pvb = 0 := by rw [li0]; exact nI_eq (by omega) (by omega)
  have kc : nI cP ≤ 0 ↔ cP ≤ 0 := by rw [li0]; exact nI_leI (by omega) (by omega)
  obtain ⟨q1, q2, q3⟩ := hpd
  rcases hd with ⟨rfl, hd⟩ | ⟨rfl, d1, d2, d3⟩
  · have e152 : B_M_write_152 fz (nI b) (nI j) z (u2 (u2 (u2 h 36 (8 * b + e0) 1) 27 11 (nI (n + 1))) 37 (8 * b + e0) (nI (n + 1))) = B_M_write_185 fz (nI b) (nI j) z 1 (u2 (u2 (u2 h 36 (8 * b + e0) 1) 27 11 (nI (n + 1))) 37 (8 * b + e0) (nI (n + 1))) := by
      by_cases c1 : pvb = 0
      · have c1' : nI pvb = 0 := kp.mpr c1
        simp only [B_M_write_152, B_M_write_180, hxb, g47, c1', eq_self, one0, if_true, if_false, not_true_eq_false, not_false_eq_true, true_implies, false_implies, implies_true, and_true, true_and]
      · have c1' : ¬ nI pvb = 0 := fun r => c1 (kp.mp r)
        by_cases c2 : y46 = 0
        · have c3 : ¬ nI cP ≤ 0 := fun r => by
            have := kc.mp r
            rcases hd with hd | hd | hd
            · exact c1 hd
            · exact hd c2
            · omega
          simp only [B_M_write_152, B_M_write_180, hxb, g47, c1', g46, c2, q2, c3, eq_self, one0, if_true, if_false, not_true_eq_false, not_false_eq_true, true_implies, false_implies, implies_true, and_true, true_and]
        · simp only [B_M_write_152, B_M_write_180, hxb, g47, c1', g46, c2, eq_self, one0, if_true, if_false, not_true_eq_false, not_false_eq_true, true_implies, false_implies, implies_true, and_true, true_and]
    have p152 : P_M_write_185 fz (nI b) (nI j) z 1 (u2 (u2 (u2 h 36 (8 * b + e0) 1) 27 11 (nI (n + 1))) 37 (8 * b + e0) (nI (n + 1))) → P_M_write_152 fz (nI b) (nI j) z (u2 (u2 (u2 h 36 (8 * b + e0) 1) 27 11 (nI (n + 1))) 37 (8 * b + e0) (nI (n + 1))) := by
      intro hp
      by_cases c1 : pvb = 0
      · have c1' : nI pvb = 0 := kp.mpr c1
        simp only [P_M_write_152, P_M_write_180, hxb, hvb, g47, c1', hp, eq_self, one0, if_true, if_false, not_true_eq_false, not_false_eq_true, true_implies, false_implies, implies_true, and_true, true_and]
      · have c1' : ¬ nI pvb = 0 := fun r => c1 (kp.mp r)
        by_cases c2 : y46 = 0
        · have c3 : ¬ nI cP ≤ 0 := fun r => by
            have := kc.mp r
            rcases hd with hd | hd | hd
            · exact c1 hd
            · exact hd c2
            · omega
          simp only [P_M_write_152, P_M_write_180, hxb, hvb, g47, c1', g46, c2, q1, q2, c3, hp, eq_self, one0, if_true, if_false, not_true_eq_false, not_false_eq_true, true_implies, false_implies, implies_true, and_true, true_and]
        · simp only [P_M_write_152, P_M_write_180, hxb, hvb, g47, c1', g46, c2, hp, eq_self, one0, if_true, if_false, not_true_eq_false, not_false_eq_true, true_implies, false_implies, implies_true, and_true, true_and]
    refine ⟨fun hp => ?_, ?_⟩
    · have hp185 : P_M_write_185 fz (nI b) (nI j) z 1 (u2 (u2 (u2 h 36 (8 * b + e0) 1) 27 11 (nI (n + 1))) 37 (8 * b + e0) (nI (n + 1))) := by
        simp only [P_M_write_185, P_M_write_197, P_M_write_227, P_M_write_254, g0, nI_1, k0, hxn, hvn, hxb, hvb, k47, hxp, hvp, k31, ep1, x32, hx3, hv3, eq_self, one0, if_true, if_false, not_true_eq_false, not_false_eq_true, true_implies, false_implies, implies_true, and_true, true_and]
        exact hp
      have h152 := p152 hp185
      simp only [P_M_write_123, P_M_write_131, P_M_write_141, hxe, hve, a11, nI_1, b11, eq_self, one0, if_true, if_false, not_true_eq_false, not_false_eq_true, true_implies, false_implies, implies_true, and_true, true_and]
      exact h152
    · have e185 : B_M_write_185 fz (nI b) (nI j) z 1 (u2 (u2 (u2 h 36 (8 * b + e0) 1) 27 11 (nI (n + 1))) 37 (8 * b + e0) (nI (n + 1))) = B_M_write_283 fz (nI b) (nI (n + 1)) (u2 (u2 (u2 (u2 (u2 (u2 (u2 (u2 (u2 (u2 (u2 h 36 (8 * b + e0) 1) 27 11 (nI (n + 1))) 37 (8 * b + e0) (nI (n + 1))) 27 0 (nI (n + 1))) 28 (n + 1) (nI b)) 29 (n + 1) (nI j)) 30 (n + 1) z) 31 (n + 1) (nI (epv + 1))) 47 b (nI (n + 1))) 46 b 0) 34 (32 * b + j) z) := by
        simp only [B_M_write_185, B_M_write_197, B_M_write_227, B_M_write_254, g0, nI_1, k0, hxn, hxb, k47, hxp, k31, ep1, x32, hx3, eq_self, one0, if_true, if_false, not_true_eq_false, not_false_eq_true, true_implies, false_implies, implies_true, and_true, true_and]
      simp only [B_M_write_123, B_M_write_131, B_M_write_141, hxe, a11, nI_1, b11]
      exact e152.trans e185
  · have c1' : ¬ nI pvb = 0 := fun r => d1 (kp.mp r)
    have c3 : nI cP ≤ 0 := kc.mpr (by omega)
    refine ⟨fun hp => ?_, ?_⟩
    · have hp185 : P_M_write_185 fz (nI b) (nI j) z 0 (u2 (u2 (u2 h 36 (8 * b + e0) 1) 27 11 (nI (n + 1))) 37 (8 * b + e0) (nI (n + 1))) := by
        simp only [P_M_write_185, P_M_write_197, P_M_write_227, P_M_write_254, g0, nI_1, k0, hxn, hvn, hxb, hvb, k47, hxp, hvp, k31, ep0, x32, hx3, hv3, eq_self, one0, if_true, if_false, not_true_eq_false, not_false_eq_true, true_implies, false_implies, implies_true, and_true, true_and]
        exact hp
      have h152 : P_M_write_152 fz (nI b) (nI j) z (u2 (u2 (u2 h 36 (8 * b + e0) 1) 27 11 (nI (n + 1))) 37 (8 * b + e0) (nI (n + 1))) := by
        simp only [P_M_write_152, hxb, hvb, g47, c1', g46, d2, q1, q2, c3, hp185, eq_self, one0, if_true, if_false, not_true_eq_false, not_false_eq_true, true_implies, false_implies, implies_true, and_true, true_and]
      simp only [P_M_write_123, P_M_write_131, P_M_write_141, hxe, hve, a11, nI_1, b11, eq_self, one0, if_true, if_false, not_true_eq_false, not_false_eq_true, true_implies, false_implies, implies_true, and_true, true_and]
      exact h152
    · have e152 : B_M_write_152 fz (nI b) (nI j) z (u2 (u2 (u2 h 36 (8 * b + e0) 1) 27 11 (nI (n + 1))) 37 (8 * b + e0) (nI (n + 1))) = B_M_write_185 fz (nI b) (nI j) z 0 (u2 (u2 (u2 h 36 (8 * b + e0) 1) 27 11 (nI (n + 1))) 37 (8 * b + e0) (nI (n + 1))) := by
        simp only [B_M_write_152, hxb, g47, c1', g46, d2, q2, c3, eq_self, one0, if_true, if_false, not_true_eq_false, not_false_eq_true, true_implies, false_implies, implies_true, and_true, true_and]
      have e185 : B_M_write_185 fz (nI b) (nI j) z 0 (u2 (u2 (u2 h 36 (8 * b + e0) 1) 27 11 (nI (n + 1))) 37 (8 * b + e0) (nI (n + 1))) = B_M_write_283 fz (nI b) (nI (n + 1)) (u2 (u2 (u2 (u2 (u2 (u2 (u2 (u2 (u2 (u2 (u2 h 36 (8 * b + e0) 1) 27 11 (nI (n + 1))) 37 (8 * b + e0) (nI (n + 1))) 27 0 (nI (n + 1))) 28 (n + 1) (nI b)) 29 (n + 1) (nI j)) 30 (n + 1) z) 31 (n + 1) (nI (epv + 0))) 47 b (nI (n + 1))) 46 b 0) 34 (32 * b + j) z) := by
        simp only [B_M_write_185, B_M_write_197, B_M_write_227, B_M_write_254, g0, nI_1, k0, hxn, hxb, k47, hxp, k31, ep0, x32, hx3, eq_self, one0, if_true, if_false, not_true_eq_false, not_false_eq_true, true_implies, false_implies, implies_true, and_true, true_and]
      simp only [B_M_write_123, B_M_write_131, B_M_write_141, hxe, a11, nI_1, b11]
      exact e152.trans e185
theorem v_tail_0 (fz : Nat) {j n epv d : Nat} (hj : j < 32) (hn : n < 300) (z PB x16 : Int32) (h : HH) (f16 : h 1 16 = x16) (f15 : h 1 15 = nI epv) (f5 : h 21 5 = nI n) (hd : (d = 1 ∧ (x16 ≠ 0 ∨ bt PB j = true)) ∨ (d = 0 ∧ x16 = 0 ∧ bt PB j = false)) : (P_V_write_154 fz 1 (nI (n + 1)) (u2 (u2 (u2 (u2 (u2 (u2 (u2 (u2 h 1 15 (nI (epv + d))) 1 16 0) 21 5 (nI (n + 1))) 22 (n + 1) (nI 0)) 23 (n + 1) (nI j)) 24 (n + 1) z) 25 (n + 1) (nI (epv + d))) 26 (n + 1) 1) → P_V_write_129 fz (nI 0) (nI j) z 1 PB h) ∧ B_V_write_129 fz (nI 0) (nI j) z 1 PB h = B_V_write_154 fz 1 (nI (n + 1)) (u2 (u2 (u2 (u2 (u2 (u2 (u2 (u2 h 1 15 (nI (epv + d))) 1 16 0) 21 5 (nI (n + 1))) 22 (n + 1) (nI 0)) 23 (n + 1) (nI j)) 24 (n + 1) z) 25 (n + 1) (nI (epv + d))) 26 (n + 1) 1) := by
  have hxn : ix (nI (n + 1)) = n + 1 := nI_clamp (by omega)
  have hvn : vp_in (nI (n + 1)) 301 := vp_in_nI (by omega) (by decide)
  have hb := B_hasBlock fz PB h hj
  have pE : P_N_epochOfNextWrite fz 1 (bi (bt PB j)) h := by simp only [P_N_epochOfNextWrite, P_N_epochOfNextWrite_21, P_N_epochOfNextWrite_11, P_N_epochOfNextWrite_26, eq_self, one0, if_true, if_false, not_true_eq_false, not_false_eq_true, true_implies, false_implies, implies_true, and_true, true_and]
  have eE : B_N_epochOfNextWrite fz 1 (bi (bt PB j)) h = (nI (epv + d), u2 (u2 h 1 15 (nI (epv + d))) 1 16 0) := by
    rcases hd with ⟨rfl, hd⟩ | ⟨rfl, d1, d2⟩
    · have e11 : B_N_epochOfNextWrite_11 fz 1 h = (nI (epv + 1), u2 (u2 h 1 15 (nI (epv + 1))) 1 16 0) := by
        have r15 : (u2 (u2 h 1 15 (nI (epv + 1))) 1 16 0) 1 15 = nI (epv + 1) := rfl
        simp only [B_N_epochOfNextWrite, B_N_epochOfNextWrite_21, B_N_epochOfNextWrite_11, B_N_epochOfNextWrite_26, f15, nI_1, r15]
      by_cases c : x16 = 0
      · have hbt : bt PB j = true := hd.resolve_left (fun r => r c)
        have e1 : bi true = 1 := rfl
        simp only [B_N_epochOfNextWrite, f16, c, hbt, e1, e11, eq_self, one0, if_true, if_false, not_true_eq_false, not_false_eq_true, true_implies, false_implies, implies_true, and_true, true_and]
      · simp only [B_N_epochOfNextWrite, f16, c, e11, eq_self, one0, if_true, if_false, not_true_eq_false, not_false_eq_true, true_implies, false_implies, implies_true, and_true, true_and]
    · have e0 : bi false = 0 := rfl
      have ei : u2 h 1 15 (nI (epv + 0)) = h := u2_id f15.symm
      have r15 : (u2 h 1 16 0) 1 15 = nI epv := f15
      rw [d2, e0, ei]
      simp only [B_N_epochOfNextWrite, B_N_epochOfNextWrite_21, B_N_epochOfNextWrite_11, B_N_epochOfNextWrite_26, f16, d1, r15, Nat.add_zero, eq_self, one0, if_true, if_false, not_true_eq_false, not_false_eq_true, true_implies, false_implies, implies_true, and_true, true_and]
  have q5 : (u2 (u2 h 1 15 (nI (epv + d))) 1 16 0) 21 5 = nI n := f5
  have hfull : B_T_isFull fz (u2 (u2 h 1 15 (nI (epv + d))) 1 16 0) = 0 := by
    have : nI n < (300 : Int32) := by rw [li300]; exact nI_lt hn (by omega)
    simp only [B_T_isFull, q5, this, eq_self, one0, if_true, if_false, not_true_eq_false, not_false_eq_true, true_implies, false_implies, implies_true, and_true, true_and]
  have r1 : (u2 (u2 (u2 h 1 15 (nI (epv + d))) 1 16 0) 21 5 (nI (n + 1))) 21 5 = nI (n + 1) := rfl
  have r2 : (u2 (u2 (u2 (u2 h 1 15 (nI (epv + d))) 1 16 0) 21 5 (nI (n + 1))) 22 (n + 1) (nI 0)) 21 5 = nI (n + 1) := rfl
  have r3 : (u2 (u2 (u2 (u2 (u2 h 1 15 (nI (epv + d))) 1 16 0) 21 5 (nI (n + 1))) 22 (n + 1) (nI 0)) 23 (n + 1) (nI j)) 21 5 = nI (n + 1) := rfl
  have r4 : (u2 (u2 (u2 (u2 (u2 (u2 h 1 15 (nI (epv + d))) 1 16 0) 21 5 (nI (n + 1))) 22 (n + 1) (nI 0)) 23 (n + 1) (nI j)) 24 (n + 1) z) 21 5 = nI (n + 1) := rfl
  have r5 : (u2 (u2 (u2 (u2 (u2 (u2 (u2 h 1 15 (nI (epv + d))) 1 16 0) 21 5 (nI (n + 1))) 22 (n + 1) (nI 0)) 23 (n + 1) (nI j)) 24 (n + 1) z) 25 (n + 1) (nI (epv + d))) 21 5 = nI (n + 1) := rfl
  have r6 : (u2 (u2 (u2 (u2 (u2 (u2 (u2 (u2 h 1 15 (nI (epv + d))) 1 16 0) 21 5 (nI (n + 1))) 22 (n + 1) (nI 0)) 23 (n + 1) (nI j)) 24 (n + 1) z) 25 (n + 1) (nI (epv + d))) 26 (n + 1) 1) 21 5 = nI (n + 1) := rfl
  have eA : B_T_accept fz (nI 0) (nI j) z (nI (epv + d)) (u2 (u2 h 1 15 (nI (epv + d))) 1 16 0) = (nI (n + 1), u2 (u2 (u2 (u2 (u2 (u2 (u2 (u2 h 1 15 (nI (epv + d))) 1 16 0) 21 5 (nI (n + 1))) 22 (n + 1) (nI 0)) 23 (n + 1) (nI j)) 24 (n + 1) z) 25 (n + 1) (nI (epv + d))) 26 (n + 1) 1) := by
    simp only [B_T_accept, B_T_accept_19, B_T_accept_29, B_T_accept_39, B_T_accept_49, B_T_accept_60, B_T_accept_70, hfull, q5, nI_1, r1, hxn, r2, r3, r4, r5, r6, eq_self, one0, if_true, if_false, not_true_eq_false, not_false_eq_true, true_implies, false_implies, implies_true, and_true, true_and]
  have pA : P_T_accept fz (nI 0) (nI j) z (nI (epv + d)) (u2 (u2 h 1 15 (nI (epv + d))) 1 16 0) := by
    simp only [P_T_accept, P_T_accept_19, P_T_accept_29, P_T_accept_39, P_T_accept_49, P_T_accept_60, P_T_accept_70, P_T_isFull, hfull, q5, nI_1, r1, hxn, hvn, r2, r3, r4, r5, eq_self, one0, if_true, if_false, not_true_eq_false, not_false_eq_true, true_implies, false_implies, implies_true, and_true, true_and]
  refine ⟨fun hp => ?_, ?_⟩
  · simp only [P_V_write_129, P_V_write_140, P_V_hasBlock, hb, pE, eE, eA, pA, hp, eq_self, one0, if_true, if_false, not_true_eq_false, not_false_eq_true, true_implies, false_implies, implies_true, and_true, true_and]
  · simp only [B_V_write_129, B_V_write_140, hb, eE, eA]
theorem v_tail_1 (fz : Nat) {j n epv d : Nat} (hj : j < 32) (hn : n < 300) (z PB x16 : Int32) (h : HH) (f16 : h 11 16 = x16) (f15 : h 11 15 = nI epv) (f5 : h 21 5 = nI n) (hd : (d = 1 ∧ (x16 ≠ 0 ∨ bt PB j = true)) ∨ (d = 0 ∧ x16 = 0 ∧ bt PB j = false)) : (P_V_write_154 fz 11 (nI (n + 1)) (u2 (u2 (u2 (u2 (u2 (u2 (u2 (u2 h 11 15 (nI (epv + d))) 11 16 0) 21 5 (nI (n + 1))) 22 (n + 1) (nI 1)) 23 (n + 1) (nI j)) 24 (n + 1) z) 25 (n + 1) (nI (epv + d))) 26 (n + 1) 1) → P_V_write_129 fz (nI 1) (nI j) z 11 PB h) ∧ B_V_write_129 fz (nI 1) (nI j) z 11 PB h = B_V_write_154 fz 11 (nI (n + 1)) (u2 (u2 (u2 (u2 (u2 (u2 (u2 (u2 h 11 15 (nI (epv + d))) 11 16 0) 21 5 (nI (n + 1))) 22 (n + 1) (nI 1)) 23 (n + 1) (nI j)) 24 (n + 1) z) 25 (n + 1) (nI (epv + d))) 26 (n + 1) 1) := by
  have hxn : ix (nI (n + 1)) = n + 1 := nI_clamp (by omega)
  have hvn : vp_in (nI (n + 1)) 301 := vp_in_nI (by omega) (by decide)
  have hb := B_hasBlock fz PB h hj
  have pE : P_N_epochOfNextWrite fz 11 (bi (bt PB j)) h := by simp only [P_N_epochOfNextWrite, P_N_epochOfNextWrite_21, P_N_epochOfNextWrite_11, P_N_epochOfNextWrite_26, eq_self, one0, if_true, if_false, not_true_eq_false, not_false_eq_true, true_implies, false_implies, implies_true, and_true, true_and]
  have eE : B_N_epochOfNextWrite fz 11 (bi (bt PB j)) h = (nI (epv + d), u2 (u2 h 11 15 (nI (epv + d))) 11 16 0) := by
    rcases hd with ⟨rfl, hd⟩ | ⟨rfl, d1, d2⟩
    · have e11 : B_N_epochOfNextWrite_11 fz 11 h = (nI (epv + 1), u2 (u2 h 11 15 (nI (epv + 1))) 11 16 0) := by
        have r15 : (u2 (u2 h 11 15 (nI (epv + 1))) 11 16 0) 11 15 = nI (epv + 1) := rfl
        simp only [B_N_epochOfNextWrite, B_N_epochOfNextWrite_21, B_N_epochOfNextWrite_11, B_N_epochOfNextWrite_26, f15, nI_1, r15]
      by_cases c : x16 = 0
      · have hbt : bt PB j = true := hd.resolve_left (fun r => r c)
        have e1 : bi true = 1 := rfl
        simp only [B_N_epochOfNextWrite, f16, c, hbt, e1, e11, eq_self, one0, if_true, if_false, not_true_eq_false, not_false_eq_true, true_implies, false_implies, implies_true, and_true, true_and]
      · simp only [B_N_epochOfNextWrite, f16, c, e11, eq_self, one0, if_true, if_false, not_true_eq_false, not_false_eq_true, true_implies, false_implies, implies_true, and_true, true_and]
    · have e0 : bi false = 0 := rfl
      have ei : u2 h 11 15 (nI (epv + 0)) = h := u2_id f15.symm
      have r15 : (u2 h 11 16 0) 11 15 = nI epv := f15
      rw [d2, e0, ei]
      simp only [B_N_epochOfNextWrite, B_N_epochOfNextWrite_21, B_N_epochOfNextWrite_11, B_N_epochOfNextWrite_26, f16, d1, r15, Nat.add_zero, eq_self, one0, if_true, if_false, not_true_eq_false, not_false_eq_true, true_implies, false_implies, implies_true, and_true, true_and]
  have q5 : (u2 (u2 h 11 15 (nI (epv + d))) 11 16 0) 21 5 = nI n := f5
  have hfull : B_T_isFull fz (u2 (u2 h 11 15 (nI (epv + d))) 11 16 0) = 0 := by
    have : nI n < (300 : Int32) := by rw [li300]; exact nI_lt hn (by omega)
    simp only [B_T_isFull, q5, this, eq_self, one0, if_true, if_false, not_true_eq_false, not_false_eq_true, true_implies, false_implies, implies_true, and_true, true_and]
  have r1 : (u2 (u2 (u2 h 11 15 (nI (epv + d))) 11 16 0) 21 5 (nI (n + 1))) 21 5 = nI (n + 1) := rfl
  have r2 : (u2 (u2 (u2 (u2 h 11 15 (nI (epv + d))) 11 16 0) 21 5 (nI (n + 1))) 22 (n + 1) (nI 1)) 21 5 = nI (n + 1) := rfl
  have r3 : (u2 (u2 (u2 (u2 (u2 h 11 15 (nI (epv + d))) 11 16 0) 21 5 (nI (n + 1))) 22 (n + 1) (nI 1)) 23 (n + 1) (nI j)) 21 5 = nI (n + 1) := rfl
  have r4 : (u2 (u2 (u2 (u2 (u2 (u2 h 11 15 (nI (epv + d))) 11 16 0) 21 5 (nI (n + 1))) 22 (n + 1) (nI 1)) 23 (n + 1) (nI j)) 24 (n + 1) z) 21 5 = nI (n + 1) := rfl
  have r5 : (u2 (u2 (u2 (u2 (u2 (u2 (u2 h 11 15 (nI (epv + d))) 11 16 0) 21 5 (nI (n + 1))) 22 (n + 1) (nI 1)) 23 (n + 1) (nI j)) 24 (n + 1) z) 25 (n + 1) (nI (epv + d))) 21 5 = nI (n + 1) := rfl
  have r6 : (u2 (u2 (u2 (u2 (u2 (u2 (u2 (u2 h 11 15 (nI (epv + d))) 11 16 0) 21 5 (nI (n + 1))) 22 (n + 1) (nI 1)) 23 (n + 1) (nI j)) 24 (n + 1) z) 25 (n + 1) (nI (epv + d))) 26 (n + 1) 1) 21 5 = nI (n + 1) := rfl
  have eA : B_T_accept fz (nI 1) (nI j) z (nI (epv + d)) (u2 (u2 h 11 15 (nI (epv + d))) 11 16 0) = (nI (n + 1), u2 (u2 (u2 (u2 (u2 (u2 (u2 (u2 h 11 15 (nI (epv + d))) 11 16 0) 21 5 (nI (n + 1))) 22 (n + 1) (nI 1)) 23 (n + 1) (nI j)) 24 (n + 1) z) 25 (n + 1) (nI (epv + d))) 26 (n + 1) 1) := by
    simp only [B_T_accept, B_T_accept_19, B_T_accept_29, B_T_accept_39, B_T_accept_49, B_T_accept_60, B_T_accept_70, hfull, q5, nI_1, r1, hxn, r2, r3, r4, r5, r6, eq_self, one0, if_true, if_false, not_true_eq_false, not_false_eq_true, true_implies, false_implies, implies_true, and_true, true_and]
  have pA : P_T_accept fz (nI 1) (nI j) z (nI (epv + d)) (u2 (u2 h 11 15 (nI (epv + d))) 11 16 0) := by
    simp only [P_T_accept, P_T_accept_19, P_T_accept_29, P_T_accept_39, P_T_accept_49, P_T_accept_60, P_T_accept_70, P_T_isFull, hfull, q5, nI_1, r1, hxn, hvn, r2, r3, r4, r5, eq_self, one0, if_true, if_false, not_true_eq_false, not_false_eq_true, true_implies, false_implies, implies_true, and_true, true_and]
  refine ⟨fun hp => ?_, ?_⟩
  · simp only [P_V_write_129, P_V_write_140, P_V_hasBlock, hb, pE, eE, eA, pA, hp, eq_self, one0, if_true, if_false, not_true_eq_false, not_false_eq_true, true_implies, false_implies, implies_true, and_true, true_and]
  · simp only [B_V_write_129, B_V_write_140, hb, eE, eA]
