theorem z0 : ix (0 : Int32) = 0 := by decide
theorem z1 : ix (1 : Int32) = 1 := by decide
theorem pz0 : vp_in (0 : Int32) 2 := by rw [li0]; exact vp_in_nI (by decide) (by decide)
theorem pz1 : vp_in (1 : Int32) 2 := by rw [li1]; exact vp_in_nI (by decide) (by decide)
theorem ch_all {n : Nat} {own blk ep ft : Nat → Nat} {sc : HH} {lk gr : Int32} {mp un : Nat → Nat → Bool} {q : Nat → List MSG} {wt : Nat → List Nat} {wx : Nat → Bool} {lg : Nat → List Nat} {us : Nat → Nat → Nat} {pv : Nat → Nat} {v m : HH} (fz : Nat) (hR : Rel n own blk ep ft sc lk gr mp un q wt wx lg us pv (v) (m)) (iC : IC (sc 6 0) (sc 6 1) (sc 8 0) (sc 8 1) (sc 9 0) (sc 9 1) (sc 12 0) (sc 12 1)) : (B_V_wentDifferentWays fz v = 1 ∧ B_M_chosen fz m = -8) ∨ (B_V_wentDifferentWays fz v = 0 ∧ ((B_V_chooseSource fz v = -1 ∧ B_M_chosen fz m = -1) ∨ (B_V_chooseSource fz v = nI 0 ∧ B_M_chosen fz m = nI 0 ∧ sc 8 0 = 0) ∨ (B_V_chooseSource fz v = nI 1 ∧ B_M_chosen fz m = nI 1 ∧ sc 8 1 = 0))) := by
  obtain ⟨hL, hT, hX, hS0, hM0, hD0, hR0, hA0, hW0, hG0, hU0, hE0, hS1, hM1, hD1, hR1, hA1, hW1, hG1, hU1, hE1⟩ := hR
  obtain ⟨s0a, s1a, s2a, s3a, s4a, s5a, s6a, s7a, s8a, s9a, s10a, s11a, s12a, s13a, s14a, s15a, s16a⟩ := hS0
  obtain ⟨s0b, s1b, s2b, s3b, s4b, s5b, s6b, s7b, s8b, s9b, s10b, s11b, s12b, s13b, s14b, s15b, s16b⟩ := hS1
  obtain ⟨c1, c2, c3, -⟩ := iC
  rw [← li0, ← li1]
  by_cases t0 : sc 8 0 = 0
  · by_cases t1 : sc 8 1 = 0
    · have n0 : ¬ sc 6 0 = 0 := fun r => c1 r t0
      have n1 : ¬ sc 6 1 = 0 := fun r => c2 r t1
      by_cases e : sc 6 0 = sc 6 1
      · by_cases k0 : sc 9 0 = 0
        · by_cases k1 : sc 9 1 = 0
          · exact Or.inr ⟨by simp only [B_V_wentDifferentWays, B_V_chooseSource, B_V_chooseSource_20, B_V_chooseSource_98, B_M_chosen, B_M_chosen_18, B_M_chosen_74, B_M_chosen_125, s1a, s9a, s2a, s10a, s3a, s11a, s4a, s12a, s6a, s14a, s1b, s9b, s2b, s10b, s3b, s11b, s4b, s12b, s6b, s14b, z0, z1, t0, t1, e, eq_self, one0, if_true, if_false, not_true_eq_false, not_false_eq_true, true_implies, false_implies, implies_true, and_true, true_and], Or.inl ⟨by simp only [B_V_wentDifferentWays, B_V_chooseSource, B_V_chooseSource_20, B_V_chooseSource_98, B_M_chosen, B_M_chosen_18, B_M_chosen_74, B_M_chosen_125, s1a, s9a, s2a, s10a, s3a, s11a, s4a, s12a, s6a, s14a, s1b, s9b, s2b, s10b, s3b, s11b, s4b, s12b, s6b, s14b, z0, z1, t0, t1, e, k0, k1, eq_self, one0, if_true, if_false, not_true_eq_false, not_false_eq_true, true_implies, false_implies, implies_true, and_true, true_and], by simp only [B_V_wentDifferentWays, B_V_chooseSource, B_V_chooseSource_20, B_V_chooseSource_98, B_M_chosen, B_M_chosen_18, B_M_chosen_74, B_M_chosen_125, s1a, s9a, s2a, s10a, s3a, s11a, s4a, s12a, s6a, s14a, s1b, s9b, s2b, s10b, s3b, s11b, s4b, s12b, s6b, s14b, z0, z1, t0, t1, e, k0, k1, eq_self, one0, if_true, if_false, not_true_eq_false, not_false_eq_true, true_implies, false_implies, implies_true, and_true, true_and]⟩⟩
          · by_cases p : sc 11 0 = sc 11 1
            · exact Or.inr ⟨by simp only [B_V_wentDifferentWays, B_V_chooseSource, B_V_chooseSource_20, B_V_chooseSource_98, B_M_chosen, B_M_chosen_18, B_M_chosen_74, B_M_chosen_125, s1a, s9a, s2a, s10a, s3a, s11a, s4a, s12a, s6a, s14a, s1b, s9b, s2b, s10b, s3b, s11b, s4b, s12b, s6b, s14b, z0, z1, t0, t1, e, eq_self, one0, if_true, if_false, not_true_eq_false, not_false_eq_true, true_implies, false_implies, implies_true, and_true, true_and], Or.inr (Or.inr ⟨by simp only [B_V_wentDifferentWays, B_V_chooseSource, B_V_chooseSource_20, B_V_chooseSource_98, B_M_chosen, B_M_chosen_18, B_M_chosen_74, B_M_chosen_125, s1a, s9a, s2a, s10a, s3a, s11a, s4a, s12a, s6a, s14a, s1b, s9b, s2b, s10b, s3b, s11b, s4b, s12b, s6b, s14b, z0, z1, t0, t1, e, k0, k1, p, eq_self, one0, if_true, if_false, not_true_eq_false, not_false_eq_true, true_implies, false_implies, implies_true, and_true, true_and], by simp only [B_V_wentDifferentWays, B_V_chooseSource, B_V_chooseSource_20, B_V_chooseSource_98, B_M_chosen, B_M_chosen_18, B_M_chosen_74, B_M_chosen_125, s1a, s9a, s2a, s10a, s3a, s11a, s4a, s12a, s6a, s14a, s1b, s9b, s2b, s10b, s3b, s11b, s4b, s12b, s6b, s14b, z0, z1, t0, t1, e, k0, k1, p, eq_self, one0, if_true, if_false, not_true_eq_false, not_false_eq_true, true_implies, false_implies, implies_true, and_true, true_and], t1⟩)⟩
            · by_cases p0 : sc 11 0 = 0
              · exact Or.inr ⟨by simp only [B_V_wentDifferentWays, B_V_chooseSource, B_V_chooseSource_20, B_V_chooseSource_98, B_M_chosen, B_M_chosen_18, B_M_chosen_74, B_M_chosen_125, s1a, s9a, s2a, s10a, s3a, s11a, s4a, s12a, s6a, s14a, s1b, s9b, s2b, s10b, s3b, s11b, s4b, s12b, s6b, s14b, z0, z1, t0, t1, e, eq_self, one0, if_true, if_false, not_true_eq_false, not_false_eq_true, true_implies, false_implies, implies_true, and_true, true_and], Or.inr (Or.inr ⟨by rw [p0] at p; simp only [B_V_wentDifferentWays, B_V_chooseSource, B_V_chooseSource_20, B_V_chooseSource_98, B_M_chosen, B_M_chosen_18, B_M_chosen_74, B_M_chosen_125, s1a, s9a, s2a, s10a, s3a, s11a, s4a, s12a, s6a, s14a, s1b, s9b, s2b, s10b, s3b, s11b, s4b, s12b, s6b, s14b, z0, z1, t0, t1, e, k0, k1, p0, p, eq_self, one0, if_true, if_false, not_true_eq_false, not_false_eq_true, true_implies, false_implies, implies_true, and_true, true_and], by rw [p0] at p; simp only [B_V_wentDifferentWays, B_V_chooseSource, B_V_chooseSource_20, B_V_chooseSource_98, B_M_chosen, B_M_chosen_18, B_M_chosen_74, B_M_chosen_125, s1a, s9a, s2a, s10a, s3a, s11a, s4a, s12a, s6a, s14a, s1b, s9b, s2b, s10b, s3b, s11b, s4b, s12b, s6b, s14b, z0, z1, t0, t1, e, k0, k1, p0, p, eq_self, one0, if_true, if_false, not_true_eq_false, not_false_eq_true, true_implies, false_implies, implies_true, and_true, true_and], t1⟩)⟩
              · exact Or.inr ⟨by simp only [B_V_wentDifferentWays, B_V_chooseSource, B_V_chooseSource_20, B_V_chooseSource_98, B_M_chosen, B_M_chosen_18, B_M_chosen_74, B_M_chosen_125, s1a, s9a, s2a, s10a, s3a, s11a, s4a, s12a, s6a, s14a, s1b, s9b, s2b, s10b, s3b, s11b, s4b, s12b, s6b, s14b, z0, z1, t0, t1, e, eq_self, one0, if_true, if_false, not_true_eq_false, not_false_eq_true, true_implies, false_implies, implies_true, and_true, true_and], Or.inr (Or.inl ⟨by simp only [B_V_wentDifferentWays, B_V_chooseSource, B_V_chooseSource_20, B_V_chooseSource_98, B_M_chosen, B_M_chosen_18, B_M_chosen_74, B_M_chosen_125, s1a, s9a, s2a, s10a, s3a, s11a, s4a, s12a, s6a, s14a, s1b, s9b, s2b, s10b, s3b, s11b, s4b, s12b, s6b, s14b, z0, z1, t0, t1, e, k0, k1, p, p0, eq_self, one0, if_true, if_false, not_true_eq_false, not_false_eq_true, true_implies, false_implies, implies_true, and_true, true_and], by simp only [B_V_wentDifferentWays, B_V_chooseSource, B_V_chooseSource_20, B_V_chooseSource_98, B_M_chosen, B_M_chosen_18, B_M_chosen_74, B_M_chosen_125, s1a, s9a, s2a, s10a, s3a, s11a, s4a, s12a, s6a, s14a, s1b, s9b, s2b, s10b, s3b, s11b, s4b, s12b, s6b, s14b, z0, z1, t0, t1, e, k0, k1, p, p0, eq_self, one0, if_true, if_false, not_true_eq_false, not_false_eq_true, true_implies, false_implies, implies_true, and_true, true_and], t0⟩)⟩
        · by_cases p : sc 11 0 = sc 11 1
          · exact Or.inr ⟨by simp only [B_V_wentDifferentWays, B_V_chooseSource, B_V_chooseSource_20, B_V_chooseSource_98, B_M_chosen, B_M_chosen_18, B_M_chosen_74, B_M_chosen_125, s1a, s9a, s2a, s10a, s3a, s11a, s4a, s12a, s6a, s14a, s1b, s9b, s2b, s10b, s3b, s11b, s4b, s12b, s6b, s14b, z0, z1, t0, t1, e, eq_self, one0, if_true, if_false, not_true_eq_false, not_false_eq_true, true_implies, false_implies, implies_true, and_true, true_and], Or.inr (Or.inl ⟨by simp only [B_V_wentDifferentWays, B_V_chooseSource, B_V_chooseSource_20, B_V_chooseSource_98, B_M_chosen, B_M_chosen_18, B_M_chosen_74, B_M_chosen_125, s1a, s9a, s2a, s10a, s3a, s11a, s4a, s12a, s6a, s14a, s1b, s9b, s2b, s10b, s3b, s11b, s4b, s12b, s6b, s14b, z0, z1, t0, t1, e, k0, p, eq_self, one0, if_true, if_false, not_true_eq_false, not_false_eq_true, true_implies, false_implies, implies_true, and_true, true_and], by simp only [B_V_wentDifferentWays, B_V_chooseSource, B_V_chooseSource_20, B_V_chooseSource_98, B_M_chosen, B_M_chosen_18, B_M_chosen_74, B_M_chosen_125, s1a, s9a, s2a, s10a, s3a, s11a, s4a, s12a, s6a, s14a, s1b, s9b, s2b, s10b, s3b, s11b, s4b, s12b, s6b, s14b, z0, z1, t0, t1, e, k0, p, eq_self, one0, if_true, if_false, not_true_eq_false, not_false_eq_true, true_implies, false_implies, implies_true, and_true, true_and], t0⟩)⟩
          · by_cases p0 : sc 11 0 = 0
            · exact Or.inr ⟨by simp only [B_V_wentDifferentWays, B_V_chooseSource, B_V_chooseSource_20, B_V_chooseSource_98, B_M_chosen, B_M_chosen_18, B_M_chosen_74, B_M_chosen_125, s1a, s9a, s2a, s10a, s3a, s11a, s4a, s12a, s6a, s14a, s1b, s9b, s2b, s10b, s3b, s11b, s4b, s12b, s6b, s14b, z0, z1, t0, t1, e, eq_self, one0, if_true, if_false, not_true_eq_false, not_false_eq_true, true_implies, false_implies, implies_true, and_true, true_and], Or.inr (Or.inr ⟨by rw [p0] at p; simp only [B_V_wentDifferentWays, B_V_chooseSource, B_V_chooseSource_20, B_V_chooseSource_98, B_M_chosen, B_M_chosen_18, B_M_chosen_74, B_M_chosen_125, s1a, s9a, s2a, s10a, s3a, s11a, s4a, s12a, s6a, s14a, s1b, s9b, s2b, s10b, s3b, s11b, s4b, s12b, s6b, s14b, z0, z1, t0, t1, e, k0, p0, p, eq_self, one0, if_true, if_false, not_true_eq_false, not_false_eq_true, true_implies, false_implies, implies_true, and_true, true_and], by rw [p0] at p; simp only [B_V_wentDifferentWays, B_V_chooseSource, B_V_chooseSource_20, B_V_chooseSource_98, B_M_chosen, B_M_chosen_18, B_M_chosen_74, B_M_chosen_125, s1a, s9a, s2a, s10a, s3a, s11a, s4a, s12a, s6a, s14a, s1b, s9b, s2b, s10b, s3b, s11b, s4b, s12b, s6b, s14b, z0, z1, t0, t1, e, k0, p0, p, eq_self, one0, if_true, if_false, not_true_eq_false, not_false_eq_true, true_implies, false_implies, implies_true, and_true, true_and], t1⟩)⟩
            · exact Or.inr ⟨by simp only [B_V_wentDifferentWays, B_V_chooseSource, B_V_chooseSource_20, B_V_chooseSource_98, B_M_chosen, B_M_chosen_18, B_M_chosen_74, B_M_chosen_125, s1a, s9a, s2a, s10a, s3a, s11a, s4a, s12a, s6a, s14a, s1b, s9b, s2b, s10b, s3b, s11b, s4b, s12b, s6b, s14b, z0, z1, t0, t1, e, eq_self, one0, if_true, if_false, not_true_eq_false, not_false_eq_true, true_implies, false_implies, implies_true, and_true, true_and], Or.inr (Or.inl ⟨by simp only [B_V_wentDifferentWays, B_V_chooseSource, B_V_chooseSource_20, B_V_chooseSource_98, B_M_chosen, B_M_chosen_18, B_M_chosen_74, B_M_chosen_125, s1a, s9a, s2a, s10a, s3a, s11a, s4a, s12a, s6a, s14a, s1b, s9b, s2b, s10b, s3b, s11b, s4b, s12b, s6b, s14b, z0, z1, t0, t1, e, k0, p, p0, eq_self, one0, if_true, if_false, not_true_eq_false, not_false_eq_true, true_implies, false_implies, implies_true, and_true, true_and], by simp only [B_V_wentDifferentWays, B_V_chooseSource, B_V_chooseSource_20, B_V_chooseSource_98, B_M_chosen, B_M_chosen_18, B_M_chosen_74, B_M_chosen_125, s1a, s9a, s2a, s10a, s3a, s11a, s4a, s12a, s6a, s14a, s1b, s9b, s2b, s10b, s3b, s11b, s4b, s12b, s6b, s14b, z0, z1, t0, t1, e, k0, p, p0, eq_self, one0, if_true, if_false, not_true_eq_false, not_false_eq_true, true_implies, false_implies, implies_true, and_true, true_and], t0⟩)⟩
      · by_cases f0 : sc 7 0 = sc 6 1
        · exact Or.inr ⟨by simp only [B_V_wentDifferentWays, B_V_chooseSource, B_V_chooseSource_20, B_V_chooseSource_98, B_M_chosen, B_M_chosen_18, B_M_chosen_74, B_M_chosen_125, s1a, s9a, s2a, s10a, s3a, s11a, s4a, s12a, s6a, s14a, s1b, s9b, s2b, s10b, s3b, s11b, s4b, s12b, s6b, s14b, z0, z1, t0, t1, e, f0, eq_self, one0, if_true, if_false, not_true_eq_false, not_false_eq_true, true_implies, false_implies, implies_true, and_true, true_and], Or.inr (Or.inl ⟨by simp only [B_V_wentDifferentWays, B_V_chooseSource, B_V_chooseSource_20, B_V_chooseSource_98, B_M_chosen, B_M_chosen_18, B_M_chosen_74, B_M_chosen_125, s1a, s9a, s2a, s10a, s3a, s11a, s4a, s12a, s6a, s14a, s1b, s9b, s2b, s10b, s3b, s11b, s4b, s12b, s6b, s14b, z0, z1, t0, t1, e, f0, eq_self, one0, if_true, if_false, not_true_eq_false, not_false_eq_true, true_implies, false_implies, implies_true, and_true, true_and], by simp only [B_V_wentDifferentWays, B_V_chooseSource, B_V_chooseSource_20, B_V_chooseSource_98, B_M_chosen, B_M_chosen_18, B_M_chosen_74, B_M_chosen_125, s1a, s9a, s2a, s10a, s3a, s11a, s4a, s12a, s6a, s14a, s1b, s9b, s2b, s10b, s3b, s11b, s4b, s12b, s6b, s14b, z0, z1, t0, t1, e, f0, n1, eq_self, one0, if_true, if_false, not_true_eq_false, not_false_eq_true, true_implies, false_implies, implies_true, and_true, true_and], t0⟩)⟩
        · by_cases f1 : sc 7 1 = sc 6 0
          · have em : B_M_chosen fz m = 1 := by
              by_cases b0 : sc 7 0 = 0
              · simp only [B_V_wentDifferentWays, B_V_chooseSource, B_V_chooseSource_20, B_V_chooseSource_98, B_M_chosen, B_M_chosen_18, B_M_chosen_74, B_M_chosen_125, s1a, s9a, s2a, s10a, s3a, s11a, s4a, s12a, s6a, s14a, s1b, s9b, s2b, s10b, s3b, s11b, s4b, s12b, s6b, s14b, z0, z1, t0, t1, e, b0, f1, n0, eq_self, one0, if_true, if_false, not_true_eq_false, not_false_eq_true, true_implies, false_implies, implies_true, and_true, true_and]
              · simp only [B_V_wentDifferentWays, B_V_chooseSource, B_V_chooseSource_20, B_V_chooseSource_98, B_M_chosen, B_M_chosen_18, B_M_chosen_74, B_M_chosen_125, s1a, s9a, s2a, s10a, s3a, s11a, s4a, s12a, s6a, s14a, s1b, s9b, s2b, s10b, s3b, s11b, s4b, s12b, s6b, s14b, z0, z1, t0, t1, e, b0, f0, f1, n0, eq_self, one0, if_true, if_false, not_true_eq_false, not_false_eq_true, true_implies, false_implies, implies_true, and_true, true_and]
            exact Or.inr ⟨by simp only [B_V_wentDifferentWays, B_V_chooseSource, B_V_chooseSource_20, B_V_chooseSource_98, B_M_chosen, B_M_chosen_18, B_M_chosen_74, B_M_chosen_125, s1a, s9a, s2a, s10a, s3a, s11a, s4a, s12a, s6a, s14a, s1b, s9b, s2b, s10b, s3b, s11b, s4b, s12b, s6b, s14b, z0, z1, t0, t1, e, f0, f1, eq_self, one0, if_true, if_false, not_true_eq_false, not_false_eq_true, true_implies, false_implies, implies_true, and_true, true_and], Or.inr (Or.inr ⟨by simp only [B_V_wentDifferentWays, B_V_chooseSource, B_V_chooseSource_20, B_V_chooseSource_98, B_M_chosen, B_M_chosen_18, B_M_chosen_74, B_M_chosen_125, s1a, s9a, s2a, s10a, s3a, s11a, s4a, s12a, s6a, s14a, s1b, s9b, s2b, s10b, s3b, s11b, s4b, s12b, s6b, s14b, z0, z1, t0, t1, e, f0, f1, eq_self, one0, if_true, if_false, not_true_eq_false, not_false_eq_true, true_implies, false_implies, implies_true, and_true, true_and], em, t1⟩)⟩
          · have em : B_M_chosen fz m = -8 := by
              by_cases b0 : sc 7 0 = 0
              · by_cases b1 : sc 7 1 = 0
                · simp only [B_V_wentDifferentWays, B_V_chooseSource, B_V_chooseSource_20, B_V_chooseSource_98, B_M_chosen, B_M_chosen_18, B_M_chosen_74, B_M_chosen_125, s1a, s9a, s2a, s10a, s3a, s11a, s4a, s12a, s6a, s14a, s1b, s9b, s2b, s10b, s3b, s11b, s4b, s12b, s6b, s14b, z0, z1, t0, t1, e, b0, b1, eq_self, one0, if_true, if_false, not_true_eq_false, not_false_eq_true, true_implies, false_implies, implies_true, and_true, true_and]
                · simp only [B_V_wentDifferentWays, B_V_chooseSource, B_V_chooseSource_20, B_V_chooseSource_98, B_M_chosen, B_M_chosen_18, B_M_chosen_74, B_M_chosen_125, s1a, s9a, s2a, s10a, s3a, s11a, s4a, s12a, s6a, s14a, s1b, s9b, s2b, s10b, s3b, s11b, s4b, s12b, s6b, s14b, z0, z1, t0, t1, e, b0, b1, f1, eq_self, one0, if_true, if_false, not_true_eq_false, not_false_eq_true, true_implies, false_implies, implies_true, and_true, true_and]
              · by_cases b1 : sc 7 1 = 0
                · simp only [B_V_wentDifferentWays, B_V_chooseSource, B_V_chooseSource_20, B_V_chooseSource_98, B_M_chosen, B_M_chosen_18, B_M_chosen_74, B_M_chosen_125, s1a, s9a, s2a, s10a, s3a, s11a, s4a, s12a, s6a, s14a, s1b, s9b, s2b, s10b, s3b, s11b, s4b, s12b, s6b, s14b, z0, z1, t0, t1, e, b0, f0, b1, eq_self, one0, if_true, if_false, not_true_eq_false, not_false_eq_true, true_implies, false_implies, implies_true, and_true, true_and]
                · simp only [B_V_wentDifferentWays, B_V_chooseSource, B_V_chooseSource_20, B_V_chooseSource_98, B_M_chosen, B_M_chosen_18, B_M_chosen_74, B_M_chosen_125, s1a, s9a, s2a, s10a, s3a, s11a, s4a, s12a, s6a, s14a, s1b, s9b, s2b, s10b, s3b, s11b, s4b, s12b, s6b, s14b, z0, z1, t0, t1, e, b0, f0, b1, f1, eq_self, one0, if_true, if_false, not_true_eq_false, not_false_eq_true, true_implies, false_implies, implies_true, and_true, true_and]
            exact Or.inl ⟨by simp only [B_V_wentDifferentWays, B_V_chooseSource, B_V_chooseSource_20, B_V_chooseSource_98, B_M_chosen, B_M_chosen_18, B_M_chosen_74, B_M_chosen_125, s1a, s9a, s2a, s10a, s3a, s11a, s4a, s12a, s6a, s14a, s1b, s9b, s2b, s10b, s3b, s11b, s4b, s12b, s6b, s14b, z0, z1, t0, t1, e, f0, f1, eq_self, one0, if_true, if_false, not_true_eq_false, not_false_eq_true, true_implies, false_implies, implies_true, and_true, true_and], em⟩
    · exact Or.inr ⟨by simp only [B_V_wentDifferentWays, B_V_chooseSource, B_V_chooseSource_20, B_V_chooseSource_98, B_M_chosen, B_M_chosen_18, B_M_chosen_74, B_M_chosen_125, s1a, s9a, s2a, s10a, s3a, s11a, s4a, s12a, s6a, s14a, s1b, s9b, s2b, s10b, s3b, s11b, s4b, s12b, s6b, s14b, z0, z1, t0, t1, eq_self, one0, if_true, if_false, not_true_eq_false, not_false_eq_true, true_implies, false_implies, implies_true, and_true, true_and], Or.inr (Or.inl ⟨by simp only [B_V_wentDifferentWays, B_V_chooseSource, B_V_chooseSource_20, B_V_chooseSource_98, B_M_chosen, B_M_chosen_18, B_M_chosen_74, B_M_chosen_125, s1a, s9a, s2a, s10a, s3a, s11a, s4a, s12a, s6a, s14a, s1b, s9b, s2b, s10b, s3b, s11b, s4b, s12b, s6b, s14b, z0, z1, t0, t1, eq_self, one0, if_true, if_false, not_true_eq_false, not_false_eq_true, true_implies, false_implies, implies_true, and_true, true_and], by simp only [B_V_wentDifferentWays, B_V_chooseSource, B_V_chooseSource_20, B_V_chooseSource_98, B_M_chosen, B_M_chosen_18, B_M_chosen_74, B_M_chosen_125, s1a, s9a, s2a, s10a, s3a, s11a, s4a, s12a, s6a, s14a, s1b, s9b, s2b, s10b, s3b, s11b, s4b, s12b, s6b, s14b, z0, z1, t0, t1, eq_self, one0, if_true, if_false, not_true_eq_false, not_false_eq_true, true_implies, false_implies, implies_true, and_true, true_and], t0⟩)⟩
  · have t1 : sc 8 1 = 0 := Classical.byContradiction (fun r => c3 ⟨t0, r⟩)
    exact Or.inr ⟨by simp only [B_V_wentDifferentWays, B_V_chooseSource, B_V_chooseSource_20, B_V_chooseSource_98, B_M_chosen, B_M_chosen_18, B_M_chosen_74, B_M_chosen_125, s1a, s9a, s2a, s10a, s3a, s11a, s4a, s12a, s6a, s14a, s1b, s9b, s2b, s10b, s3b, s11b, s4b, s12b, s6b, s14b, z0, z1, t0, t1, eq_self, one0, if_true, if_false, not_true_eq_false, not_false_eq_true, true_implies, false_implies, implies_true, and_true, true_and], Or.inr (Or.inr ⟨by simp only [B_V_wentDifferentWays, B_V_chooseSource, B_V_chooseSource_20, B_V_chooseSource_98, B_M_chosen, B_M_chosen_18, B_M_chosen_74, B_M_chosen_125, s1a, s9a, s2a, s10a, s3a, s11a, s4a, s12a, s6a, s14a, s1b, s9b, s2b, s10b, s3b, s11b, s4b, s12b, s6b, s14b, z0, z1, t0, t1, eq_self, one0, if_true, if_false, not_true_eq_false, not_false_eq_true, true_implies, false_implies, implies_true, and_true, true_and], by simp only [B_V_wentDifferentWays, B_V_chooseSource, B_V_chooseSource_20, B_V_chooseSource_98, B_M_chosen, B_M_chosen_18, B_M_chosen_74, B_M_chosen_125, s1a, s9a, s2a, s10a, s3a, s11a, s4a, s12a, s6a, s14a, s1b, s9b, s2b, s10b, s3b, s11b, s4b, s12b, s6b, s14b, z0, z1, t0, t1, eq_self, one0, if_true, if_false, not_true_eq_false, not_false_eq_true, true_implies, false_implies, implies_true, and_true, true_and], t1⟩)⟩
theorem con_all_0 (fz : Nat) (hz : 400 ≤ fz) {t : Nat} {n : Nat} {own blk ep ft : Nat → Nat} {sc : HH} {lk gr : Int32} {mp un : Nat → Nat → Bool} {q : Nat → List MSG} {wt : Nat → List Nat} {wx : Nat → Bool} {lg : Nat → List Nat} {us : Nat → Nat → Nat} {pv : Nat → Nat} {v m : HH} (hR : Rel n own blk ep ft sc lk gr mp un q wt wx lg us pv (v) (m)) (hI : Inv t n own blk ep ft sc lk gr mp un q wt wx pv) (hl : lk = 0) (hs8 : sc 8 0 = 0) : (P_V_beginUpdate_71 fz 1 (u2 (u2 (u2 (u2 (u2 v 0 3 1) 1 5 (-1 : Int32)) 1 12 1) 11 13 1) 11 8 1) ∧ P_M_connect_232 fz (nI 0) (u2 (u2 (u2 (rs 35 (32 * 0 + 0) (32 * 0 + 32) (fun k => bi (!(decide ((1 : Int32) = 0) && decide ((u2 m 27 23 1) 35 k = 0) && decide ((u2 m 27 23 1) 35 (32 * 1 + (k - 32 * 0)) = 0)))) (u2 m 27 23 1)) 44 0 1) 45 1 1) 40 1 1)) ∧ J2 (t + 1) (B_V_beginUpdate_71 fz 1 (u2 (u2 (u2 (u2 (u2 v 0 3 1) 1 5 (-1 : Int32)) 1 12 1) 11 13 1) 11 8 1)) (B_M_endIfEmpty fz (nI 0) (u2 (u2 (u2 (rs 35 (32 * 0 + 0) (32 * 0 + 32) (fun k => bi (!(decide ((1 : Int32) = 0) && decide ((u2 m 27 23 1) 35 k = 0) && decide ((u2 m 27 23 1) 35 (32 * 1 + (k - 32 * 0)) = 0)))) (u2 m 27 23 1)) 44 0 1) 45 1 1) 40 1 1)) := by
  obtain ⟨u1, u2', u3, ⟨u4, u5, u6, u7, u8, u9⟩, u10⟩ := Inv_un hI hl
  obtain ⟨jT, jG, jN0, jN1, jQ0, jQ1, jR0, jR1, jW, jC, jK, jE⟩ := hI.mono (show t ≤ t + 1 by omega)
  have hR' := hR
  obtain ⟨hL, hT, hX, hS0, hM0, hD0, hR0, hA0, hW0, hG0, hU0, hE0, hS1, hM1, hD1, hR1, hA1, hW1, hG1, hU1, hE1⟩ := hR'
  have hf : ∀ j, j < 32 → (fun k => bi (!(decide ((1 : Int32) = 0) && decide ((u2 m 27 23 1) 35 k = 0) && decide ((u2 m 27 23 1) 35 (32 * 1 + (k - 32 * 0)) = 0)))) (32 * 0 + j) = bi (bt (-1 : Int32) j) := by
    intro j hj
    rw [b_m1 j hj]
    rfl
  have r4 := r_set_8_1 (r_set_13_1 (r_set_12_0 (r_mapall_0 (X := (-1 : Int32)) (f := (fun k => bi (!(decide ((1 : Int32) = 0) && decide ((u2 m 27 23 1) 35 k = 0) && decide ((u2 m 27 23 1) 35 (32 * 1 + (k - 32 * 0)) = 0))))) (r_lk hR 1) hf) 1) 1) 1
  obtain ⟨c1, c2, c3, c4, c5, c6, c7, c8⟩ := jC
  have hI1 : Inv (t + 1) n own blk ep ft (u2 (u2 (u2 sc 12 0 1) 13 1 1) 8 1 1) (1) gr (ug mp 0 (bt (-1 : Int32))) un q wt wx pv := by
    have eL0 : PL (q 1) (wt 1) (q 0) = [] := by rw [u4, u5, u7]; rfl
    have eL1 : PL (q 0) (wt 0) (q 1) = [] := by rw [u4, u5, u6]; rfl
    refine ⟨jT, jG, ?_, ?_, ?_, ?_, jR0, jR1, jW, ?_, fun r => absurd r one0, jE⟩
    · rw [eL0]
      exact IN.nil (fun w g1 g2 _ => u1 w g1 g2) u2'
    · rw [eL1]
      exact IN.nil (fun w g1 g2 _ => u1 w g1 g2) u3
    · rw [u4]
      exact ⟨fun a ha => (by cases ha), fun a ha => (by cases ha), by decide⟩
    · rw [u5]
      exact ⟨fun a ha => (by cases ha), fun a ha => (by cases ha), by decide⟩
    · exact ⟨c1, fun _ => one0, fun r => r.1 hs8, fun _ => hs8, fun r => absurd u9 r, fun r => r.2 u9, c7, c8⟩
  have hsrc : (u2 (u2 (u2 sc 12 0 1) 13 1 1) 8 1 1) 12 0 ≠ 0 := one0
  have hroom := Inv_room_0 hI1 hsrc
  obtain ⟨hE1, hE2⟩ := r_endif_0 fz hz jT.1 (fun w h1 h2 => ⟨(jT.2 w h1 h2).1, (jT.2 w h1 h2).2.2.2⟩) r4 hroom
  by_cases hE : ∀ j, j < 32 → ug mp 0 (bt (-1 : Int32)) 0 j = false
  · obtain ⟨w1, w2, w3, w4⟩ := hE1 hE
    refine ⟨⟨by simp only [P_V_beginUpdate_71, w1, w2, eq_self, one0, if_true, if_false, not_true_eq_false, not_false_eq_true, true_implies, false_implies, implies_true, and_true, true_and], ⟨w3, trivial⟩⟩, ?_⟩
    rw [show B_V_beginUpdate_71 fz 1 (u2 (u2 (u2 (u2 (u2 v 0 3 1) 1 5 (-1 : Int32)) 1 12 1) 11 13 1) 11 8 1) = B_V_end fz 1 (u2 (u2 (u2 (u2 (u2 v 0 3 1) 1 5 (-1 : Int32)) 1 12 1) 11 13 1) 11 8 1) from by simp only [B_V_beginUpdate_71, w1, eq_self, one0, if_true, if_false, not_true_eq_false, not_false_eq_true, true_implies, false_implies, implies_true, and_true, true_and]]
    exact ⟨_, _, _, _, _, _, _, _, _, _, _, _, _, lg, us, _, w4, Inv_end_0 hI1 hsrc hE one0⟩
  · obtain ⟨w1, w2, w3⟩ := hE2 hE
    refine ⟨⟨by simp only [P_V_beginUpdate_71, w1, eq_self, one0, if_true, if_false, not_true_eq_false, not_false_eq_true, true_implies, false_implies, implies_true, and_true, true_and], ⟨w2, trivial⟩⟩, ?_⟩
    rw [show B_V_beginUpdate_71 fz 1 (u2 (u2 (u2 (u2 (u2 v 0 3 1) 1 5 (-1 : Int32)) 1 12 1) 11 13 1) 11 8 1) = u2 (u2 (u2 (u2 (u2 v 0 3 1) 1 5 (-1 : Int32)) 1 12 1) 11 13 1) 11 8 1 from by simp only [B_V_beginUpdate_71, w1, eq_self, one0, if_true, if_false, not_true_eq_false, not_false_eq_true, true_implies, false_implies, implies_true, and_true, true_and], w3]
    exact ⟨_, _, _, _, _, _, _, _, _, _, _, _, _, lg, us, _, r4, hI1⟩
theorem con_or_0 (fz : Nat) (hz : 400 ≤ fz) {t : Nat} {n : Nat} {own blk ep ft : Nat → Nat} {sc : HH} {lk gr : Int32} {mp un : Nat → Nat → Bool} {q : Nat → List MSG} {wt : Nat → List Nat} {wx : Nat → Bool} {lg : Nat → List Nat} {us : Nat → Nat → Nat} {pv : Nat → Nat} {v m : HH} (hR : Rel n own blk ep ft sc lk gr mp un q wt wx lg us pv (v) (m)) (hI : Inv t n own blk ep ft sc lk gr mp un q wt wx pv) (hl : lk = 0) (hs8 : sc 8 0 = 0) : (P_V_beginUpdate_71 fz 1 (u2 (u2 (u2 (u2 (u2 v 0 3 1) 1 5 (v 1 5 ||| v 11 5)) 1 12 1) 11 13 1) 11 8 1) ∧ P_M_connect_232 fz (nI 0) (u2 (u2 (u2 (rs 35 (32 * 0 + 0) (32 * 0 + 32) (fun k => bi (!(decide ((0 : Int32) = 0) && decide ((u2 m 27 23 1) 35 k = 0) && decide ((u2 m 27 23 1) 35 (32 * 1 + (k - 32 * 0)) = 0)))) (u2 m 27 23 1)) 44 0 1) 45 1 1) 40 1 1)) ∧ J2 (t + 1) (B_V_beginUpdate_71 fz 1 (u2 (u2 (u2 (u2 (u2 v 0 3 1) 1 5 (v 1 5 ||| v 11 5)) 1 12 1) 11 13 1) 11 8 1)) (B_M_endIfEmpty fz (nI 0) (u2 (u2 (u2 (rs 35 (32 * 0 + 0) (32 * 0 + 32) (fun k => bi (!(decide ((0 : Int32) = 0) && decide ((u2 m 27 23 1) 35 k = 0) && decide ((u2 m 27 23 1) 35 (32 * 1 + (k - 32 * 0)) = 0)))) (u2 m 27 23 1)) 44 0 1) 45 1 1) 40 1 1)) := by
  obtain ⟨u1, u2', u3, ⟨u4, u5, u6, u7, u8, u9⟩, u10⟩ := Inv_un hI hl
  obtain ⟨jT, jG, jN0, jN1, jQ0, jQ1, jR0, jR1, jW, jC, jK, jE⟩ := hI.mono (show t ≤ t + 1 by omega)
  have hR' := hR
  obtain ⟨hL, hT, hX, hS0, hM0, hD0, hR0, hA0, hW0, hG0, hU0, hE0, hS1, hM1, hD1, hR1, hA1, hW1, hG1, hU1, hE1⟩ := hR'
  have hf : ∀ j, j < 32 → (fun k => bi (!(decide ((0 : Int32) = 0) && decide ((u2 m 27 23 1) 35 k = 0) && decide ((u2 m 27 23 1) 35 (32 * 1 + (k - 32 * 0)) = 0)))) (32 * 0 + j) = bi (bt (v 1 5 ||| v 11 5) j) := by
    intro j hj
    have e1 : (u2 m 27 23 1) 35 (32 * 0 + j) = bi (mp 0 j) := (hM0 j hj).2
    have e2 : (u2 m 27 23 1) 35 (32 * 1 + (32 * 0 + j - 32 * 0)) = bi (mp 1 j) := by
      rw [show 32 * 0 + j - 32 * 0 = j by omega]
      exact (hM1 j hj).2
    show bi (!(decide ((0 : Int32) = 0) && decide ((u2 m 27 23 1) 35 (32 * 0 + j) = 0) && decide ((u2 m 27 23 1) 35 (32 * 1 + (32 * 0 + j - 32 * 0)) = 0))) = _
    rw [e1, e2, b_or, (hM0 j hj).1, (hM1 j hj).1]
    cases mp 0 j <;> cases mp 1 j <;> rfl
  have r4 := r_set_8_1 (r_set_13_1 (r_set_12_0 (r_mapall_0 (X := (v 1 5 ||| v 11 5)) (f := (fun k => bi (!(decide ((0 : Int32) = 0) && decide ((u2 m 27 23 1) 35 k = 0) && decide ((u2 m 27 23 1) 35 (32 * 1 + (k - 32 * 0)) = 0))))) (r_lk hR 1) hf) 1) 1) 1
  obtain ⟨c1, c2, c3, c4, c5, c6, c7, c8⟩ := jC
  have hI1 : Inv (t + 1) n own blk ep ft (u2 (u2 (u2 sc 12 0 1) 13 1 1) 8 1 1) (1) gr (ug mp 0 (bt (v 1 5 ||| v 11 5))) un q wt wx pv := by
    have eL0 : PL (q 1) (wt 1) (q 0) = [] := by rw [u4, u5, u7]; rfl
    have eL1 : PL (q 0) (wt 0) (q 1) = [] := by rw [u4, u5, u6]; rfl
    refine ⟨jT, jG, ?_, ?_, ?_, ?_, jR0, jR1, jW, ?_, fun r => absurd r one0, jE⟩
    · rw [eL0]
      exact IN.nil (fun w g1 g2 _ => u1 w g1 g2) u2'
    · rw [eL1]
      exact IN.nil (fun w g1 g2 _ => u1 w g1 g2) u3
    · rw [u4]
      exact ⟨fun a ha => (by cases ha), fun a ha => (by cases ha), by decide⟩
    · rw [u5]
      exact ⟨fun a ha => (by cases ha), fun a ha => (by cases ha), by decide⟩
    · exact ⟨c1, fun _ => one0, fun r => r.1 hs8, fun _ => hs8, fun r => absurd u9 r, fun r => r.2 u9, c7, c8⟩
  have hsrc : (u2 (u2 (u2 sc 12 0 1) 13 1 1) 8 1 1) 12 0 ≠ 0 := one0
  have hroom := Inv_room_0 hI1 hsrc
  obtain ⟨hE1, hE2⟩ := r_endif_0 fz hz jT.1 (fun w h1 h2 => ⟨(jT.2 w h1 h2).1, (jT.2 w h1 h2).2.2.2⟩) r4 hroom
  by_cases hE : ∀ j, j < 32 → ug mp 0 (bt (v 1 5 ||| v 11 5)) 0 j = false
  · obtain ⟨w1, w2, w3, w4⟩ := hE1 hE
    refine ⟨⟨by simp only [P_V_beginUpdate_71, w1, w2, eq_self, one0, if_true, if_false, not_true_eq_false, not_false_eq_true, true_implies, false_implies, implies_true, and_true, true_and], ⟨w3, trivial⟩⟩, ?_⟩
    rw [show B_V_beginUpdate_71 fz 1 (u2 (u2 (u2 (u2 (u2 v 0 3 1) 1 5 (v 1 5 ||| v 11 5)) 1 12 1) 11 13 1) 11 8 1) = B_V_end fz 1 (u2 (u2 (u2 (u2 (u2 v 0 3 1) 1 5 (v 1 5 ||| v 11 5)) 1 12 1) 11 13 1) 11 8 1) from by simp only [B_V_beginUpdate_71, w1, eq_self, one0, if_true, if_false, not_true_eq_false, not_false_eq_true, true_implies, false_implies, implies_true, and_true, true_and]]
    exact ⟨_, _, _, _, _, _, _, _, _, _, _, _, _, lg, us, _, w4, Inv_end_0 hI1 hsrc hE one0⟩
  · obtain ⟨w1, w2, w3⟩ := hE2 hE
    refine ⟨⟨by simp only [P_V_beginUpdate_71, w1, eq_self, one0, if_true, if_false, not_true_eq_false, not_false_eq_true, true_implies, false_implies, implies_true, and_true, true_and], ⟨w2, trivial⟩⟩, ?_⟩
    rw [show B_V_beginUpdate_71 fz 1 (u2 (u2 (u2 (u2 (u2 v 0 3 1) 1 5 (v 1 5 ||| v 11 5)) 1 12 1) 11 13 1) 11 8 1) = u2 (u2 (u2 (u2 (u2 v 0 3 1) 1 5 (v 1 5 ||| v 11 5)) 1 12 1) 11 13 1) 11 8 1 from by simp only [B_V_beginUpdate_71, w1, eq_self, one0, if_true, if_false, not_true_eq_false, not_false_eq_true, true_implies, false_implies, implies_true, and_true, true_and], w3]
    exact ⟨_, _, _, _, _, _, _, _, _, _, _, _, _, lg, us, _, r4, hI1⟩
theorem con_all_1 (fz : Nat) (hz : 400 ≤ fz) {t : Nat} {n : Nat} {own blk ep ft : Nat → Nat} {sc : HH} {lk gr : Int32} {mp un : Nat → Nat → Bool} {q : Nat → List MSG} {wt : Nat → List Nat} {wx : Nat → Bool} {lg : Nat → List Nat} {us : Nat → Nat → Nat} {pv : Nat → Nat} {v m : HH} (hR : Rel n own blk ep ft sc lk gr mp un q wt wx lg us pv (v) (m)) (hI : Inv t n own blk ep ft sc lk gr mp un q wt wx pv) (hl : lk = 0) (hs8 : sc 8 1 = 0) : (P_V_beginUpdate_71 fz 11 (u2 (u2 (u2 (u2 (u2 v 0 3 1) 11 5 (-1 : Int32)) 11 12 1) 1 13 1) 1 8 1) ∧ P_M_connect_232 fz (nI 1) (u2 (u2 (u2 (rs 35 (32 * 1 + 0) (32 * 1 + 32) (fun k => bi (!(decide ((1 : Int32) = 0) && decide ((u2 m 27 23 1) 35 k = 0) && decide ((u2 m 27 23 1) 35 (32 * 0 + (k - 32 * 1)) = 0)))) (u2 m 27 23 1)) 44 1 1) 45 0 1) 40 0 1)) ∧ J2 (t + 1) (B_V_beginUpdate_71 fz 11 (u2 (u2 (u2 (u2 (u2 v 0 3 1) 11 5 (-1 : Int32)) 11 12 1) 1 13 1) 1 8 1)) (B_M_endIfEmpty fz (nI 1) (u2 (u2 (u2 (rs 35 (32 * 1 + 0) (32 * 1 + 32) (fun k => bi (!(decide ((1 : Int32) = 0) && decide ((u2 m 27 23 1) 35 k = 0) && decide ((u2 m 27 23 1) 35 (32 * 0 + (k - 32 * 1)) = 0)))) (u2 m 27 23 1)) 44 1 1) 45 0 1) 40 0 1)) := by
  obtain ⟨u1, u2', u3, ⟨u4, u5, u6, u7, u8, u9⟩, u10⟩ := Inv_un hI hl
  obtain ⟨jT, jG, jN0, jN1, jQ0, jQ1, jR0, jR1, jW, jC, jK, jE⟩ := hI.mono (show t ≤ t + 1 by omega)
  have hR' := hR
  obtain ⟨hL, hT, hX, hS0, hM0, hD0, hR0, hA0, hW0, hG0, hU0, hE0, hS1, hM1, hD1, hR1, hA1, hW1, hG1, hU1, hE1⟩ := hR'
  have hf : ∀ j, j < 32 → (fun k => bi (!(decide ((1 : Int32) = 0) && decide ((u2 m 27 23 1) 35 k = 0) && decide ((u2 m 27 23 1) 35 (32 * 0 + (k - 32 * 1)) = 0)))) (32 * 1 + j) = bi (bt (-1 : Int32) j) := by
    intro j hj
    rw [b_m1 j hj]
    rfl
  have r4 := r_set_8_0 (r_set_13_0 (r_set_12_1 (r_mapall_1 (X := (-1 : Int32)) (f := (fun k => bi (!(decide ((1 : Int32) = 0) && decide ((u2 m 27 23 1) 35 k = 0) && decide ((u2 m 27 23 1) 35 (32 * 0 + (k - 32 * 1)) = 0))))) (r_lk hR 1) hf) 1) 1) 1
  obtain ⟨c1, c2, c3, c4, c5, c6, c7, c8⟩ := jC
  have hI1 : Inv (t + 1) n own blk ep ft (u2 (u2 (u2 sc 12 1 1) 13 0 1) 8 0 1) (1) gr (ug mp 1 (bt (-1 : Int32))) un q wt wx pv := by
    have eL0 : PL (q 1) (wt 1) (q 0) = [] := by rw [u4, u5, u7]; rfl
    have eL1 : PL (q 0) (wt 0) (q 1) = [] := by rw [u4, u5, u6]; rfl
    refine ⟨jT, jG, ?_, ?_, ?_, ?_, jR0, jR1, jW, ?_, fun r => absurd r one0, jE⟩
    · rw [eL0]
      exact IN.nil (fun w g1 g2 _ => u1 w g1 g2) u2'
    · rw [eL1]
      exact IN.nil (fun w g1 g2 _ => u1 w g1 g2) u3
    · rw [u4]
      exact ⟨fun a ha => (by cases ha), fun a ha => (by cases ha), by decide⟩
    · rw [u5]
      exact ⟨fun a ha => (by cases ha), fun a ha => (by cases ha), by decide⟩
    · exact ⟨fun _ => one0, c2, fun r => r.2 hs8, fun r => absurd u8 r, fun _ => hs8, fun r => r.1 u8, c7, c8⟩
  have hsrc : (u2 (u2 (u2 sc 12 1 1) 13 0 1) 8 0 1) 12 1 ≠ 0 := one0
  have hroom := Inv_room_1 hI1 hsrc
  obtain ⟨hE1, hE2⟩ := r_endif_1 fz hz jT.1 (fun w h1 h2 => ⟨(jT.2 w h1 h2).1, (jT.2 w h1 h2).2.2.2⟩) r4 hroom
  by_cases hE : ∀ j, j < 32 → ug mp 1 (bt (-1 : Int32)) 1 j = false
  · obtain ⟨w1, w2, w3, w4⟩ := hE1 hE
    refine ⟨⟨by simp only [P_V_beginUpdate_71, w1, w2, eq_self, one0, if_true, if_false, not_true_eq_false, not_false_eq_true, true_implies, false_implies, implies_true, and_true, true_and], ⟨w3, trivial⟩⟩, ?_⟩
    rw [show B_V_beginUpdate_71 fz 11 (u2 (u2 (u2 (u2 (u2 v 0 3 1) 11 5 (-1 : Int32)) 11 12 1) 1 13 1) 1 8 1) = B_V_end fz 11 (u2 (u2 (u2 (u2 (u2 v 0 3 1) 11 5 (-1 : Int32)) 11 12 1) 1 13 1) 1 8 1) from by simp only [B_V_beginUpdate_71, w1, eq_self, one0, if_true, if_false, not_true_eq_false, not_false_eq_true, true_implies, false_implies, implies_true, and_true, true_and]]
    exact ⟨_, _, _, _, _, _, _, _, _, _, _, _, _, lg, us, _, w4, Inv_end_1 hI1 hsrc hE one0⟩
  · obtain ⟨w1, w2, w3⟩ := hE2 hE
    refine ⟨⟨by simp only [P_V_beginUpdate_71, w1, eq_self, one0, if_true, if_false, not_true_eq_false, not_false_eq_true, true_implies, false_implies, implies_true, and_true, true_and], ⟨w2, trivial⟩⟩, ?_⟩
    rw [show B_V_beginUpdate_71 fz 11 (u2 (u2 (u2 (u2 (u2 v 0 3 1) 11 5 (-1 : Int32)) 11 12 1) 1 13 1) 1 8 1) = u2 (u2 (u2 (u2 (u2 v 0 3 1) 11 5 (-1 : Int32)) 11 12 1) 1 13 1) 1 8 1 from by simp only [B_V_beginUpdate_71, w1, eq_self, one0, if_true, if_false, not_true_eq_false, not_false_eq_true, true_implies, false_implies, implies_true, and_true, true_and], w3]
    exact ⟨_, _, _, _, _, _, _, _, _, _, _, _, _, lg, us, _, r4, hI1⟩
theorem con_or_1 (fz : Nat) (hz : 400 ≤ fz) {t : Nat} {n : Nat} {own blk ep ft : Nat → Nat} {sc : HH} {lk gr : Int32} {mp un : Nat → Nat → Bool} {q : Nat → List MSG} {wt : Nat → List Nat} {wx : Nat → Bool} {lg : Nat → List Nat} {us : Nat → Nat → Nat} {pv : Nat → Nat} {v m : HH} (hR : Rel n own blk ep ft sc lk gr mp un q wt wx lg us pv (v) (m)) (hI : Inv t n own blk ep ft sc lk gr mp un q wt wx pv) (hl : lk = 0) (hs8 : sc 8 1 = 0) : (P_V_beginUpdate_71 fz 11 (u2 (u2 (u2 (u2 (u2 v 0 3 1) 11 5 (v 11 5 ||| v 1 5)) 11 12 1) 1 13 1) 1 8 1) ∧ P_M_connect_232 fz (nI 1) (u2 (u2 (u2 (rs 35 (32 * 1 + 0) (32 * 1 + 32) (fun k => bi (!(decide ((0 : Int32) = 0) && decide ((u2 m 27 23 1) 35 k = 0) && decide ((u2 m 27 23 1) 35 (32 * 0 + (k - 32 * 1)) = 0)))) (u2 m 27 23 1)) 44 1 1) 45 0 1) 40 0 1)) ∧ J2 (t + 1) (B_V_beginUpdate_71 fz 11 (u2 (u2 (u2 (u2 (u2 v 0 3 1) 11 5 (v 11 5 ||| v 1 5)) 11 12 1) 1 13 1) 1 8 1)) (B_M_endIfEmpty fz (nI 1) (u2 (u2 (u2 (rs 35 (32 * 1 + 0) (32 * 1 + 32) (fun k => bi (!(decide ((0 : Int32) = 0) && decide ((u2 m 27 23 1) 35 k = 0) && decide ((u2 m 27 23 1) 35 (32 * 0 + (k - 32 * 1)) = 0)))) (u2 m 27 23 1)) 44 1 1) 45 0 1) 40 0 1)) := by
  obtain ⟨u1, u2', u3, ⟨u4, u5, u6, u7, u8, u9⟩, u10⟩ := Inv_un hI hl
  obtain ⟨jT, jG, jN0, jN1, jQ0, jQ1, jR0, jR1, jW, jC, jK, jE⟩ := hI.mono (show t ≤ t + 1 by omega)
  have hR' := hR
  obtain ⟨hL, hT, hX, hS0, hM0, hD0, hR0, hA0, hW0, hG0, hU0, hE0, hS1, hM1, hD1, hR1, hA1, hW1, hG1, hU1, hE1⟩ := hR'
  have hf : ∀ j, j < 32 → (fun k => bi (!(decide ((0 : Int32) = 0) && decide ((u2 m 27 23 1) 35 k = 0) && decide ((u2 m 27 23 1) 35 (32 * 0 + (k - 32 * 1)) = 0)))) (32 * 1 + j) = bi (bt (v 11 5 ||| v 1 5) j) := by
    intro j hj
    have e1 : (u2 m 27 23 1) 35 (32 * 1 + j) = bi (mp 1 j) := (hM1 j hj).2
    have e2 : (u2 m 27 23 1) 35 (32 * 0 + (32 * 1 + j - 32 * 1)) = bi (mp 0 j) := by
      rw [show 32 * 1 + j - 32 * 1 = j by omega]
      exact (hM0 j hj).2
    show bi (!(decide ((0 : Int32) = 0) && decide ((u2 m 27 23 1) 35 (32 * 1 + j) = 0) && decide ((u2 m 27 23 1) 35 (32 * 0 + (32 * 1 + j - 32 * 1)) = 0))) = _
    rw [e1, e2, b_or, (hM1 j hj).1, (hM0 j hj).1]
    cases mp 1 j <;> cases mp 0 j <;> rfl
  have r4 := r_set_8_0 (r_set_13_0 (r_set_12_1 (r_mapall_1 (X := (v 11 5 ||| v 1 5)) (f := (fun k => bi (!(decide ((0 : Int32) = 0) && decide ((u2 m 27 23 1) 35 k = 0) && decide ((u2 m 27 23 1) 35 (32 * 0 + (k - 32 * 1)) = 0))))) (r_lk hR 1) hf) 1) 1) 1
  obtain ⟨c1, c2, c3, c4, c5, c6, c7, c8⟩ := jC
  have hI1 : Inv (t + 1) n own blk ep ft (u2 (u2 (u2 sc 12 1 1) 13 0 1) 8 0 1) (1) gr (ug mp 1 (bt (v 11 5 ||| v 1 5))) un q wt wx pv := by
    have eL0 : PL (q 1) (wt 1) (q 0) = [] := by rw [u4, u5, u7]; rfl
    have eL1 : PL (q 0) (wt 0) (q 1) = [] := by rw [u4, u5, u6]; rfl
    refine ⟨jT, jG, ?_, ?_, ?_, ?_, jR0, jR1, jW, ?_, fun r => absurd r one0, jE⟩
    · rw [eL0]
      exact IN.nil (fun w g1 g2 _ => u1 w g1 g2) u2'
    · rw [eL1]
      exact IN.nil (fun w g1 g2 _ => u1 w g1 g2) u3
    · rw [u4]
      exact ⟨fun a ha => (by cases ha), fun a ha => (by cases ha), by decide⟩
    · rw [u5]
      exact ⟨fun a ha => (by cases ha), fun a ha => (by cases ha), by decide⟩
    · exact ⟨fun _ => one0, c2, fun r => r.2 hs8, fun r => absurd u8 r, fun _ => hs8, fun r => r.1 u8, c7, c8⟩
  have hsrc : (u2 (u2 (u2 sc 12 1 1) 13 0 1) 8 0 1) 12 1 ≠ 0 := one0
  have hroom := Inv_room_1 hI1 hsrc
  obtain ⟨hE1, hE2⟩ := r_endif_1 fz hz jT.1 (fun w h1 h2 => ⟨(jT.2 w h1 h2).1, (jT.2 w h1 h2).2.2.2⟩) r4 hroom
  by_cases hE : ∀ j, j < 32 → ug mp 1 (bt (v 11 5 ||| v 1 5)) 1 j = false
  · obtain ⟨w1, w2, w3, w4⟩ := hE1 hE
    refine ⟨⟨by simp only [P_V_beginUpdate_71, w1, w2, eq_self, one0, if_true, if_false, not_true_eq_false, not_false_eq_true, true_implies, false_implies, implies_true, and_true, true_and], ⟨w3, trivial⟩⟩, ?_⟩
    rw [show B_V_beginUpdate_71 fz 11 (u2 (u2 (u2 (u2 (u2 v 0 3 1) 11 5 (v 11 5 ||| v 1 5)) 11 12 1) 1 13 1) 1 8 1) = B_V_end fz 11 (u2 (u2 (u2 (u2 (u2 v 0 3 1) 11 5 (v 11 5 ||| v 1 5)) 11 12 1) 1 13 1) 1 8 1) from by simp only [B_V_beginUpdate_71, w1, eq_self, one0, if_true, if_false, not_true_eq_false, not_false_eq_true, true_implies, false_implies, implies_true, and_true, true_and]]
    exact ⟨_, _, _, _, _, _, _, _, _, _, _, _, _, lg, us, _, w4, Inv_end_1 hI1 hsrc hE one0⟩
  · obtain ⟨w1, w2, w3⟩ := hE2 hE
    refine ⟨⟨by simp only [P_V_beginUpdate_71, w1, eq_self, one0, if_true, if_false, not_true_eq_false, not_false_eq_true, true_implies, false_implies, implies_true, and_true, true_and], ⟨w2, trivial⟩⟩, ?_⟩
    rw [show B_V_beginUpdate_71 fz 11 (u2 (u2 (u2 (u2 (u2 v 0 3 1) 11 5 (v 11 5 ||| v 1 5)) 11 12 1) 1 13 1) 1 8 1) = u2 (u2 (u2 (u2 (u2 v 0 3 1) 11 5 (v 11 5 ||| v 1 5)) 11 12 1) 1 13 1) 1 8 1 from by simp only [B_V_beginUpdate_71, w1, eq_self, one0, if_true, if_false, not_true_eq_false, not_false_eq_true, true_implies, false_implies, implies_true, and_true, true_and], w3]
    exact ⟨_, _, _, _, _, _, _, _, _, _, _, _, _, lg, us, _, r4, hI1⟩
theorem pT_went (fz : Nat) (h : HH) : P_V_wentDifferentWays fz h := by simp [P_V_wentDifferentWays]
theorem pT_choose (fz : Nat) (h : HH) : P_V_chooseSource fz h := by simp [P_V_chooseSource, P_V_chooseSource_20, P_V_chooseSource_98]
theorem pT_chosen (fz : Nat) (h : HH) : P_M_chosen fz h := by simp [P_M_chosen, P_M_chosen_18, P_M_chosen_74, P_M_chosen_125, pz0, pz1]
theorem con56 (fz : Nat) (hz : 400 ≤ fz) {t : Nat} (ht : t ≤ 600) {n : Nat} {own blk ep ft : Nat → Nat} {sc : HH} {lk gr : Int32} {mp un : Nat → Nat → Bool} {q : Nat → List MSG} {wt : Nat → List Nat} {wx : Nat → Bool} {lg : Nat → List Nat} {us : Nat → Nat → Nat} {pv : Nat → Nat} {v m : HH} (hJ0 : J2 t v m) (hR : Rel n own blk ep ft sc lk gr mp un q wt wx lg us pv (v) (m)) (hI : Inv t n own blk ep ft sc lk gr mp un q wt wx pv) (cl : lk = 0) : P_V_connect_56 fz v ∧ P_M_connect_52 fz m ∧ RS t (B_V_connect_56 fz v) (B_M_connect_52 fz m) := by
  have hI' := hI
  obtain ⟨iT, iG, iN0, iN1, iQ0, iQ1, iR0, iR1, iW, iC, iK, iE⟩ := hI'
  have hch := ch_all fz hR iC
  have hR' := hR
  obtain ⟨hL, hT, hX, hS0, hM0, hD0, hR0, hA0, hW0, hG0, hU0, hE0, hS1, hM1, hD1, hR1, hA1, hW1, hG1, hU1, hE1⟩ := hR'
  obtain ⟨s0a, s1a, s2a, s3a, s4a, s5a, s6a, s7a, s8a, s9a, s10a, s11a, s12a, s13a, s14a, s15a, s16a⟩ := hS0
  obtain ⟨s0b, s1b, s2b, s3b, s4b, s5b, s6b, s7b, s8b, s9b, s10b, s11b, s12b, s13b, s14b, s15b, s16b⟩ := hS1
  rcases hch with ⟨hW, hM⟩ | ⟨hW, ⟨hC, hM⟩ | h | h⟩
  · have eV : B_V_connect_56 fz v = (-8, v) := by simp only [B_V_connect_56, hW, eq_self, one0, if_true, if_false, not_true_eq_false, not_false_eq_true, true_implies, false_implies, implies_true, and_true, true_and]
    have eM : B_M_connect_52 fz m = (-8, m) := by simp only [B_M_connect_52, hM, eq_self, one0, if_true, if_false, not_true_eq_false, not_false_eq_true, true_implies, false_implies, implies_true, and_true, true_and]
    refine ⟨by simp only [P_V_connect_56, pT_went, hW, eq_self, one0, if_true, if_false, not_true_eq_false, not_false_eq_true, true_implies, false_implies, implies_true, and_true, true_and], by simp only [P_M_connect_52, pT_chosen, hM, eq_self, one0, if_true, if_false, not_true_eq_false, not_false_eq_true, true_implies, false_implies, implies_true, and_true, true_and], ?_⟩
    rw [eV, eM]
    exact RS.same hJ0 _
  · have n18 : ¬ (-1 : Int32) = -8 := by decide
    have n10 : (-1 : Int32) < 0 := by decide
    have n01 : ¬ 0 ≤ (-1 : Int32) := by decide
    have eV : B_V_connect_56 fz v = (0, u2 v 0 3 1) := by simp only [B_V_connect_56, hW, hC, eq_self, one0, if_true, if_false, not_true_eq_false, not_false_eq_true, true_implies, false_implies, implies_true, and_true, true_and]
    have eM : B_M_connect_52 fz m = (0, u2 m 27 23 1) := by simp only [B_M_connect_52, B_M_connect_84, hM, n18, n10, n01, eq_self, one0, if_true, if_false, not_true_eq_false, not_false_eq_true, true_implies, false_implies, implies_true, and_true, true_and]
    refine ⟨by simp only [P_V_connect_56, pT_went, pT_choose, hW, hC, eq_self, one0, if_true, if_false, not_true_eq_false, not_false_eq_true, true_implies, false_implies, implies_true, and_true, true_and], by simp only [P_M_connect_52, P_M_connect_84, pT_chosen, hM, n18, n10, n01, eq_self, one0, if_true, if_false, not_true_eq_false, not_false_eq_true, true_implies, false_implies, implies_true, and_true, true_and], ?_⟩
    rw [eV, eM]
    obtain ⟨jT, jG, jN0, jN1, jQ0, jQ1, jR0, jR1, jW, jC, jK, jE⟩ := hI.mono (show t ≤ t + 1 by omega)
    exact ⟨rfl, n, own, blk, ep, ft, sc, 1, gr, mp, un, q, wt, wx, lg, us, pv, r_lk hR 1, jT, jG, jN0, jN1, jQ0, jQ1, jR0, jR1, jW, jC, fun r => absurd r one0, jE⟩
  · obtain ⟨hC, hM, hs8⟩ := h
    have hcm : ¬ nI 0 = -1 := by decide +kernel
    have hM8 : ¬ nI 0 = -8 := by decide +kernel
    have hMn : ¬ nI 0 < 0 := nI_pos (by decide)
    have hMge : 0 ≤ nI 0 := nI_pos' (by decide)
    have q6t : (u2 v 0 3 1) 11 6 = sc 6 1 := s1b
    have q6s : (u2 v 0 3 1) 1 6 = sc 6 0 := s1a
    have q7s : (u2 v 0 3 1) 1 7 = sc 7 0 := s2a
    have q5s : (u2 v 0 3 1) 1 5 = v 1 5 := rfl
    have q5t : (u2 v 0 3 1) 11 5 = v 11 5 := rfl
    have k6t : (u2 m 27 23 1) 38 1 = sc 6 1 := s9b
    have k6s : (u2 m 27 23 1) 38 0 = sc 6 0 := s9a
    have k7s : (u2 m 27 23 1) 39 0 = sc 7 0 := s10a
    by_cases c11 : sc 11 1 = 0
    · by_cases d0 : sc 6 1 = 0
      · obtain ⟨⟨p1, p2⟩, hJ2⟩ := con_all_0 fz hz hR hI cl hs8
        have cc := cv_connect fz hz (s := 0) (t := 1) (by decide) (by decide) (by decide) 1 (u2 m 27 23 1) p2
        have eV : B_V_connect_56 fz v = (1 + nI 0, B_V_beginUpdate_71 fz 1 (u2 (u2 (u2 (u2 (u2 v 0 3 1) 1 5 (-1 : Int32)) 1 12 1) 11 13 1) 11 8 1)) := by simp only [B_V_connect_56, B_V_connect_102, B_V_beginUpdate, B_V_beginUpdate_33, B_V_beginUpdate_29, B_V_beginUpdate_34, B_V_beginUpdate_53, vN_0, mN_0, nO_0, pO_0, ixb_0, vpb_0, om_0, ixb_1, vpb_1, s6b, s14b, hW, hC, hcm, c11, q6t, q6s, q7s, q5s, q5t, d0, eq_self, one0, if_true, if_false, not_true_eq_false, not_false_eq_true, true_implies, false_implies, implies_true, and_true, true_and]
        have eM : B_M_connect_52 fz m = (1 + nI 0, B_M_endIfEmpty fz (nI 0) (u2 (u2 (u2 (rs 35 (32 * 0 + 0) (32 * 0 + 32) (fun k => bi (!(decide ((1 : Int32) = 0) && decide ((u2 m 27 23 1) 35 k = 0) && decide ((u2 m 27 23 1) 35 (32 * 1 + (k - 32 * 0)) = 0)))) (u2 m 27 23 1)) 44 0 1) 45 1 1) 40 1 1)) := by simp only [B_M_connect_52, B_M_connect_84, B_M_connect_95, B_M_connect_138, B_M_connect_142, B_M_connect_143, vN_0, mN_0, nO_0, pO_0, ixb_0, vpb_0, om_0, ixb_1, vpb_1, s6b, s14b, hM, hM8, hMn, hMge, c11, k6t, k6s, k7s, d0, cc.2, B_M_connect_232, eq_self, one0, if_true, if_false, not_true_eq_false, not_false_eq_true, true_implies, false_implies, implies_true, and_true, true_and]
        refine ⟨by simp only [P_V_connect_56, P_V_connect_102, pT_went, pT_choose, P_V_beginUpdate, P_V_beginUpdate_33, P_V_beginUpdate_29, P_V_beginUpdate_34, P_V_beginUpdate_53, pT_nodeOf, pT_peerOf, vN_0, mN_0, nO_0, pO_0, ixb_0, vpb_0, om_0, ixb_1, vpb_1, s6b, s14b, hW, hC, hcm, c11, q6t, q6s, q7s, q5s, q5t, d0, p1, eq_self, one0, if_true, if_false, not_true_eq_false, not_false_eq_true, true_implies, false_implies, implies_true, and_true, true_and], by simp only [P_M_connect_52, pT_chosen, P_M_connect_84, P_M_connect_95, P_M_connect_138, P_M_connect_142, P_M_connect_143, vN_0, mN_0, nO_0, pO_0, ixb_0, vpb_0, om_0, ixb_1, vpb_1, s6b, s14b, hM, hM8, hMn, hMge, c11, k6t, k6s, k7s, d0, cc.1, eq_self, one0, if_true, if_false, not_true_eq_false, not_false_eq_true, true_implies, false_implies, implies_true, and_true, true_and], ?_⟩
        rw [eV, eM]
        exact ⟨rfl, hJ2⟩
      · by_cases d1 : sc 6 1 = sc 6 0
        · have d1' : ¬ sc 6 0 = 0 := fun r => d0 (d1.trans r)
          obtain ⟨⟨p1, p2⟩, hJ2⟩ := con_or_0 fz hz hR hI cl hs8
          have cc := cv_connect fz hz (s := 0) (t := 1) (by decide) (by decide) (by decide) 0 (u2 m 27 23 1) p2
          have eV : B_V_connect_56 fz v = (1 + nI 0, B_V_beginUpdate_71 fz 1 (u2 (u2 (u2 (u2 (u2 v 0 3 1) 1 5 (v 1 5 ||| v 11 5)) 1 12 1) 11 13 1) 11 8 1)) := by simp only [B_V_connect_56, B_V_connect_102, B_V_beginUpdate, B_V_beginUpdate_33, B_V_beginUpdate_29, B_V_beginUpdate_34, B_V_beginUpdate_53, vN_0, mN_0, nO_0, pO_0, ixb_0, vpb_0, om_0, ixb_1, vpb_1, s6b, s14b, hW, hC, hcm, c11, q6t, q6s, q7s, q5s, q5t, d1, d1', eq_self, one0, if_true, if_false, not_true_eq_false, not_false_eq_true, true_implies, false_implies, implies_true, and_true, true_and]
          have eM : B_M_connect_52 fz m = (1 + nI 0, B_M_endIfEmpty fz (nI 0) (u2 (u2 (u2 (rs 35 (32 * 0 + 0) (32 * 0 + 32) (fun k => bi (!(decide ((0 : Int32) = 0) && decide ((u2 m 27 23 1) 35 k = 0) && decide ((u2 m 27 23 1) 35 (32 * 1 + (k - 32 * 0)) = 0)))) (u2 m 27 23 1)) 44 0 1) 45 1 1) 40 1 1)) := by simp only [B_M_connect_52, B_M_connect_84, B_M_connect_95, B_M_connect_138, B_M_connect_142, B_M_connect_143, vN_0, mN_0, nO_0, pO_0, ixb_0, vpb_0, om_0, ixb_1, vpb_1, s6b, s14b, hM, hM8, hMn, hMge, c11, k6t, k6s, k7s, d1, d1', cc.2, B_M_connect_232, eq_self, one0, if_true, if_false, not_true_eq_false, not_false_eq_true, true_implies, false_implies, implies_true, and_true, true_and]
          refine ⟨by simp only [P_V_connect_56, P_V_connect_102, pT_went, pT_choose, P_V_beginUpdate, P_V_beginUpdate_33, P_V_beginUpdate_29, P_V_beginUpdate_34, P_V_beginUpdate_53, pT_nodeOf, pT_peerOf, vN_0, mN_0, nO_0, pO_0, ixb_0, vpb_0, om_0, ixb_1, vpb_1, s6b, s14b, hW, hC, hcm, c11, q6t, q6s, q7s, q5s, q5t, d1, d1', p1, eq_self, one0, if_true, if_false, not_true_eq_false, not_false_eq_true, true_implies, false_implies, implies_true, and_true, true_and], by simp only [P_M_connect_52, pT_chosen, P_M_connect_84, P_M_connect_95, P_M_connect_138, P_M_connect_142, P_M_connect_143, vN_0, mN_0, nO_0, pO_0, ixb_0, vpb_0, om_0, ixb_1, vpb_1, s6b, s14b, hM, hM8, hMn, hMge, c11, k6t, k6s, k7s, d1, d1', cc.1, eq_self, one0, if_true, if_false, not_true_eq_false, not_false_eq_true, true_implies, false_implies, implies_true, and_true, true_and], ?_⟩
          rw [eV, eM]
          exact ⟨rfl, hJ2⟩
        · by_cases d2 : sc 6 1 = sc 7 0
          · have d2' : ¬ sc 7 0 = 0 := fun r => d0 (d2.trans r)
            have d3' : ¬ sc 7 0 = sc 6 0 := fun r => d1 (d2.trans r)
            obtain ⟨⟨p1, p2⟩, hJ2⟩ := con_or_0 fz hz hR hI cl hs8
            have cc := cv_connect fz hz (s := 0) (t := 1) (by decide) (by decide) (by decide) 0 (u2 m 27 23 1) p2
            have eV : B_V_connect_56 fz v = (1 + nI 0, B_V_beginUpdate_71 fz 1 (u2 (u2 (u2 (u2 (u2 v 0 3 1) 1 5 (v 1 5 ||| v 11 5)) 1 12 1) 11 13 1) 11 8 1)) := by simp only [B_V_connect_56, B_V_connect_102, B_V_beginUpdate, B_V_beginUpdate_33, B_V_beginUpdate_29, B_V_beginUpdate_34, B_V_beginUpdate_53, vN_0, mN_0, nO_0, pO_0, ixb_0, vpb_0, om_0, ixb_1, vpb_1, s6b, s14b, hW, hC, hcm, c11, q6t, q6s, q7s, q5s, q5t, d2, d2', d3', eq_self, one0, if_true, if_false, not_true_eq_false, not_false_eq_true, true_implies, false_implies, implies_true, and_true, true_and]
            have eM : B_M_connect_52 fz m = (1 + nI 0, B_M_endIfEmpty fz (nI 0) (u2 (u2 (u2 (rs 35 (32 * 0 + 0) (32 * 0 + 32) (fun k => bi (!(decide ((0 : Int32) = 0) && decide ((u2 m 27 23 1) 35 k = 0) && decide ((u2 m 27 23 1) 35 (32 * 1 + (k - 32 * 0)) = 0)))) (u2 m 27 23 1)) 44 0 1) 45 1 1) 40 1 1)) := by simp only [B_M_connect_52, B_M_connect_84, B_M_connect_95, B_M_connect_138, B_M_connect_142, B_M_connect_143, vN_0, mN_0, nO_0, pO_0, ixb_0, vpb_0, om_0, ixb_1, vpb_1, s6b, s14b, hM, hM8, hMn, hMge, c11, k6t, k6s, k7s, d2, d2', d3', cc.2, B_M_connect_232, eq_self, one0, if_true, if_false, not_true_eq_false, not_false_eq_true, true_implies, false_implies, implies_true, and_true, true_and]
            refine ⟨by simp only [P_V_connect_56, P_V_connect_102, pT_went, pT_choose, P_V_beginUpdate, P_V_beginUpdate_33, P_V_beginUpdate_29, P_V_beginUpdate_34, P_V_beginUpdate_53, pT_nodeOf, pT_peerOf, vN_0, mN_0, nO_0, pO_0, ixb_0, vpb_0, om_0, ixb_1, vpb_1, s6b, s14b, hW, hC, hcm, c11, q6t, q6s, q7s, q5s, q5t, d2, d2', d3', p1, eq_self, one0, if_true, if_false, not_true_eq_false, not_false_eq_true, true_implies, false_implies, implies_true, and_true, true_and], by simp only [P_M_connect_52, pT_chosen, P_M_connect_84, P_M_connect_95, P_M_connect_138, P_M_connect_142, P_M_connect_143, vN_0, mN_0, nO_0, pO_0, ixb_0, vpb_0, om_0, ixb_1, vpb_1, s6b, s14b, hM, hM8, hMn, hMge, c11, k6t, k6s, k7s, d2, d2', d3', cc.1, eq_self, one0, if_true, if_false, not_true_eq_false, not_false_eq_true, true_implies, false_implies, implies_true, and_true, true_and], ?_⟩
            rw [eV, eM]
            exact ⟨rfl, hJ2⟩
          · obtain ⟨⟨p1, p2⟩, hJ2⟩ := con_all_0 fz hz hR hI cl hs8
            have cc := cv_connect fz hz (s := 0) (t := 1) (by decide) (by decide) (by decide) 1 (u2 m 27 23 1) p2
            have eV : B_V_connect_56 fz v = (1 + nI 0, B_V_beginUpdate_71 fz 1 (u2 (u2 (u2 (u2 (u2 v 0 3 1) 1 5 (-1 : Int32)) 1 12 1) 11 13 1) 11 8 1)) := by simp only [B_V_connect_56, B_V_connect_102, B_V_beginUpdate, B_V_beginUpdate_33, B_V_beginUpdate_29, B_V_beginUpdate_34, B_V_beginUpdate_53, vN_0, mN_0, nO_0, pO_0, ixb_0, vpb_0, om_0, ixb_1, vpb_1, s6b, s14b, hW, hC, hcm, c11, q6t, q6s, q7s, q5s, q5t, d0, d1, d2, eq_self, one0, if_true, if_false, not_true_eq_false, not_false_eq_true, true_implies, false_implies, implies_true, and_true, true_and]
            have eM : B_M_connect_52 fz m = (1 + nI 0, B_M_endIfEmpty fz (nI 0) (u2 (u2 (u2 (rs 35 (32 * 0 + 0) (32 * 0 + 32) (fun k => bi (!(decide ((1 : Int32) = 0) && decide ((u2 m 27 23 1) 35 k = 0) && decide ((u2 m 27 23 1) 35 (32 * 1 + (k - 32 * 0)) = 0)))) (u2 m 27 23 1)) 44 0 1) 45 1 1) 40 1 1)) := by simp only [B_M_connect_52, B_M_connect_84, B_M_connect_95, B_M_connect_138, B_M_connect_142, B_M_connect_143, vN_0, mN_0, nO_0, pO_0, ixb_0, vpb_0, om_0, ixb_1, vpb_1, s6b, s14b, hM, hM8, hMn, hMge, c11, k6t, k6s, k7s, d0, d1, d2, cc.2, B_M_connect_232, eq_self, one0, if_true, if_false, not_true_eq_false, not_false_eq_true, true_implies, false_implies, implies_true, and_true, true_and]
            refine ⟨by simp only [P_V_connect_56, P_V_connect_102, pT_went, pT_choose, P_V_beginUpdate, P_V_beginUpdate_33, P_V_beginUpdate_29, P_V_beginUpdate_34, P_V_beginUpdate_53, pT_nodeOf, pT_peerOf, vN_0, mN_0, nO_0, pO_0, ixb_0, vpb_0, om_0, ixb_1, vpb_1, s6b, s14b, hW, hC, hcm, c11, q6t, q6s, q7s, q5s, q5t, d0, d1, d2, p1, eq_self, one0, if_true, if_false, not_true_eq_false, not_false_eq_true, true_implies, false_implies, implies_true, and_true, true_and], by simp only [P_M_connect_52, pT_chosen, P_M_connect_84, P_M_connect_95, P_M_connect_138, P_M_connect_142, P_M_connect_143, vN_0, mN_0, nO_0, pO_0, ixb_0, vpb_0, om_0, ixb_1, vpb_1, s6b, s14b, hM, hM8, hMn, hMge, c11, k6t, k6s, k7s, d0, d1, d2, cc.1, eq_self, one0, if_true, if_false, not_true_eq_false, not_false_eq_true, true_implies, false_implies, implies_true, and_true, true_and], ?_⟩
            rw [eV, eM]
            exact ⟨rfl, hJ2⟩
    · have eV : B_V_connect_56 fz v = (-10, v) := by simp only [B_V_connect_56, vN_0, mN_0, nO_0, pO_0, ixb_0, vpb_0, om_0, ixb_1, vpb_1, s6b, s14b, hW, hC, hcm, c11, eq_self, one0, if_true, if_false, not_true_eq_false, not_false_eq_true, true_implies, false_implies, implies_true, and_true, true_and]
      have eM : B_M_connect_52 fz m = (-10, m) := by simp only [B_M_connect_52, vN_0, mN_0, nO_0, pO_0, ixb_0, vpb_0, om_0, ixb_1, vpb_1, s6b, s14b, hM, hM8, hMn, c11, eq_self, one0, if_true, if_false, not_true_eq_false, not_false_eq_true, true_implies, false_implies, implies_true, and_true, true_and]
      refine ⟨by simp only [P_V_connect_56, pT_went, pT_choose, pT_peerOf, vN_0, mN_0, nO_0, pO_0, ixb_0, vpb_0, om_0, ixb_1, vpb_1, s6b, s14b, hW, hC, hcm, c11, eq_self, one0, if_true, if_false, not_true_eq_false, not_false_eq_true, true_implies, false_implies, implies_true, and_true, true_and], by simp only [P_M_connect_52, pT_chosen, vN_0, mN_0, nO_0, pO_0, ixb_0, vpb_0, om_0, ixb_1, vpb_1, s6b, s14b, hM, hM8, hMn, c11, eq_self, one0, if_true, if_false, not_true_eq_false, not_false_eq_true, true_implies, false_implies, implies_true, and_true, true_and], ?_⟩
      rw [eV, eM]
      exact RS.same hJ0 _
  · obtain ⟨hC, hM, hs8⟩ := h
    have hcm : ¬ nI 1 = -1 := by decide +kernel
    have hM8 : ¬ nI 1 = -8 := by decide +kernel
    have hMn : ¬ nI 1 < 0 := nI_pos (by decide)
    have hMge : 0 ≤ nI 1 := nI_pos' (by decide)
    have q6t : (u2 v 0 3 1) 1 6 = sc 6 0 := s1a
    have q6s : (u2 v 0 3 1) 11 6 = sc 6 1 := s1b
    have q7s : (u2 v 0 3 1) 11 7 = sc 7 1 := s2b
    have q5s : (u2 v 0 3 1) 11 5 = v 11 5 := rfl
    have q5t : (u2 v 0 3 1) 1 5 = v 1 5 := rfl
    have k6t : (u2 m 27 23 1) 38 0 = sc 6 0 := s9a
    have k6s : (u2 m 27 23 1) 38 1 = sc 6 1 := s9b
    have k7s : (u2 m 27 23 1) 39 1 = sc 7 1 := s10b
    by_cases c11 : sc 11 0 = 0
    · by_cases d0 : sc 6 0 = 0
      · obtain ⟨⟨p1, p2⟩, hJ2⟩ := con_all_1 fz hz hR hI cl hs8
        have cc := cv_connect fz hz (s := 1) (t := 0) (by decide) (by decide) (by decide) 1 (u2 m 27 23 1) p2
        have eV : B_V_connect_56 fz v = (1 + nI 1, B_V_beginUpdate_71 fz 11 (u2 (u2 (u2 (u2 (u2 v 0 3 1) 11 5 (-1 : Int32)) 11 12 1) 1 13 1) 1 8 1)) := by simp only [B_V_connect_56, B_V_connect_102, B_V_beginUpdate, B_V_beginUpdate_33, B_V_beginUpdate_29, B_V_beginUpdate_34, B_V_beginUpdate_53, vN_1, mN_1, nO_1, pO_1, ixb_1, vpb_1, om_1, ixb_0, vpb_0, s6a, s14a, hW, hC, hcm, c11, q6t, q6s, q7s, q5s, q5t, d0, eq_self, one0, if_true, if_false, not_true_eq_false, not_false_eq_true, true_implies, false_implies, implies_true, and_true, true_and]
        have eM : B_M_connect_52 fz m = (1 + nI 1, B_M_endIfEmpty fz (nI 1) (u2 (u2 (u2 (rs 35 (32 * 1 + 0) (32 * 1 + 32) (fun k => bi (!(decide ((1 : Int32) = 0) && decide ((u2 m 27 23 1) 35 k = 0) && decide ((u2 m 27 23 1) 35 (32 * 0 + (k - 32 * 1)) = 0)))) (u2 m 27 23 1)) 44 1 1) 45 0 1) 40 0 1)) := by simp only [B_M_connect_52, B_M_connect_84, B_M_connect_95, B_M_connect_138, B_M_connect_142, B_M_connect_143, vN_1, mN_1, nO_1, pO_1, ixb_1, vpb_1, om_1, ixb_0, vpb_0, s6a, s14a, hM, hM8, hMn, hMge, c11, k6t, k6s, k7s, d0, cc.2, B_M_connect_232, eq_self, one0, if_true, if_false, not_true_eq_false, not_false_eq_true, true_implies, false_implies, implies_true, and_true, true_and]
        refine ⟨by simp only [P_V_connect_56, P_V_connect_102, pT_went, pT_choose, P_V_beginUpdate, P_V_beginUpdate_33, P_V_beginUpdate_29, P_V_beginUpdate_34, P_V_beginUpdate_53, pT_nodeOf, pT_peerOf, vN_1, mN_1, nO_1, pO_1, ixb_1, vpb_1, om_1, ixb_0, vpb_0, s6a, s14a, hW, hC, hcm, c11, q6t, q6s, q7s, q5s, q5t, d0, p1, eq_self, one0, if_true, if_false, not_true_eq_false, not_false_eq_true, true_implies, false_implies, implies_true, and_true, true_and], by simp only [P_M_connect_52, pT_chosen, P_M_connect_84, P_M_connect_95, P_M_connect_138, P_M_connect_142, P_M_connect_143, vN_1, mN_1, nO_1, pO_1, ixb_1, vpb_1, om_1, ixb_0, vpb_0, s6a, s14a, hM, hM8, hMn, hMge, c11, k6t, k6s, k7s, d0, cc.1, eq_self, one0, if_true, if_false, not_true_eq_false, not_false_eq_true, true_implies, false_implies, implies_true, and_true, true_and], ?_⟩
        rw [eV, eM]
        exact ⟨rfl, hJ2⟩
      · by_cases d1 : sc 6 0 = sc 6 1
        · have d1' : ¬ sc 6 1 = 0 := fun r => d0 (d1.trans r)
          obtain ⟨⟨p1, p2⟩, hJ2⟩ := con_or_1 fz hz hR hI cl hs8
          have cc := cv_connect fz hz (s := 1) (t := 0) (by decide) (by decide) (by decide) 0 (u2 m 27 23 1) p2
          have eV : B_V_connect_56 fz v = (1 + nI 1, B_V_beginUpdate_71 fz 11 (u2 (u2 (u2 (u2 (u2 v 0 3 1) 11 5 (v 11 5 ||| v 1 5)) 11 12 1) 1 13 1) 1 8 1)) := by simp only [B_V_connect_56, B_V_connect_102, B_V_beginUpdate, B_V_beginUpdate_33, B_V_beginUpdate_29, B_V_beginUpdate_34, B_V_beginUpdate_53, vN_1, mN_1, nO_1, pO_1, ixb_1, vpb_1, om_1, ixb_0, vpb_0, s6a, s14a, hW, hC, hcm, c11, q6t, q6s, q7s, q5s, q5t, d1, d1', eq_self, one0, if_true, if_false, not_true_eq_false, not_false_eq_true, true_implies, false_implies, implies_true, and_true, true_and]
          have eM : B_M_connect_52 fz m = (1 + nI 1, B_M_endIfEmpty fz (nI 1) (u2 (u2 (u2 (rs 35 (32 * 1 + 0) (32 * 1 + 32) (fun k => bi (!(decide ((0 : Int32) = 0) && decide ((u2 m 27 23 1) 35 k = 0) && decide ((u2 m 27 23 1) 35 (32 * 0 + (k - 32 * 1)) = 0)))) (u2 m 27 23 1)) 44 1 1) 45 0 1) 40 0 1)) := by simp only [B_M_connect_52, B_M_connect_84, B_M_connect_95, B_M_connect_138, B_M_connect_142, B_M_connect_143, vN_1, mN_1, nO_1, pO_1, ixb_1, vpb_1, om_1, ixb_0, vpb_0, s6a, s14a, hM, hM8, hMn, hMge, c11, k6t, k6s, k7s, d1, d1', cc.2, B_M_connect_232, eq_self, one0, if_true, if_false, not_true_eq_false, not_false_eq_true, true_implies, false_implies, implies_true, and_true, true_and]
          refine ⟨by simp only [P_V_connect_56, P_V_connect_102, pT_went, pT_choose, P_V_beginUpdate, P_V_beginUpdate_33, P_V_beginUpdate_29, P_V_beginUpdate_34, P_V_beginUpdate_53, pT_nodeOf, pT_peerOf, vN_1, mN_1, nO_1, pO_1, ixb_1, vpb_1, om_1, ixb_0, vpb_0, s6a, s14a, hW, hC, hcm, c11, q6t, q6s, q7s, q5s, q5t, d1, d1', p1, eq_self, one0, if_true, if_false, not_true_eq_false, not_false_eq_true, true_implies, false_implies, implies_true, and_true, true_and], by simp only [P_M_connect_52, pT_chosen, P_M_connect_84, P_M_connect_95, P_M_connect_138, P_M_connect_142, P_M_connect_143, vN_1, mN_1, nO_1, pO_1, ixb_1, vpb_1, om_1, ixb_0, vpb_0, s6a, s14a, hM, hM8, hMn, hMge, c11, k6t, k6s, k7s, d1, d1', cc.1, eq_self, one0, if_true, if_false, not_true_eq_false, not_false_eq_true, true_implies, false_implies, implies_true, and_true, true_and], ?_⟩
          rw [eV, eM]
          exact ⟨rfl, hJ2⟩
        · by_cases d2 : sc 6 0 = sc 7 1
          · have d2' : ¬ sc 7 1 = 0 := fun r => d0 (d2.trans r)
            have d3' : ¬ sc 7 1 = sc 6 1 := fun r => d1 (d2.trans r)
            obtain ⟨⟨p1, p2⟩, hJ2⟩ := con_or_1 fz hz hR hI cl hs8
            have cc := cv_connect fz hz (s := 1) (t := 0) (by decide) (by decide) (by decide) 0 (u2 m 27 23 1) p2
            have eV : B_V_connect_56 fz v = (1 + nI 1, B_V_beginUpdate_71 fz 11 (u2 (u2 (u2 (u2 (u2 v 0 3 1) 11 5 (v 11 5 ||| v 1 5)) 11 12 1) 1 13 1) 1 8 1)) := by simp only [B_V_connect_56, B_V_connect_102, B_V_beginUpdate, B_V_beginUpdate_33, B_V_beginUpdate_29, B_V_beginUpdate_34, B_V_beginUpdate_53, vN_1, mN_1, nO_1, pO_1, ixb_1, vpb_1, om_1, ixb_0, vpb_0, s6a, s14a, hW, hC, hcm, c11, q6t, q6s, q7s, q5s, q5t, d2, d2', d3', eq_self, one0, if_true, if_false, not_true_eq_false, not_false_eq_true, true_implies, false_implies, implies_true, and_true, true_and]
            have eM : B_M_connect_52 fz m = (1 + nI 1, B_M_endIfEmpty fz (nI 1) (u2 (u2 (u2 (rs 35 (32 * 1 + 0) (32 * 1 + 32) (fun k => bi (!(decide ((0 : Int32) = 0) && decide ((u2 m 27 23 1) 35 k = 0) && decide ((u2 m 27 23 1) 35 (32 * 0 + (k - 32 * 1)) = 0)))) (u2 m 27 23 1)) 44 1 1) 45 0 1) 40 0 1)) := by simp only [B_M_connect_52, B_M_connect_84, B_M_connect_95, B_M_connect_138, B_M_connect_142, B_M_connect_143, vN_1, mN_1, nO_1, pO_1, ixb_1, vpb_1, om_1, ixb_0, vpb_0, s6a, s14a, hM, hM8, hMn, hMge, c11, k6t, k6s, k7s, d2, d2', d3', cc.2, B_M_connect_232, eq_self, one0, if_true, if_false, not_true_eq_false, not_false_eq_true, true_implies, false_implies, implies_true, and_true, true_and]
            refine ⟨by simp only [P_V_connect_56, P_V_connect_102, pT_went, pT_choose, P_V_beginUpdate, P_V_beginUpdate_33, P_V_beginUpdate_29, P_V_beginUpdate_34, P_V_beginUpdate_53, pT_nodeOf, pT_peerOf, vN_1, mN_1, nO_1, pO_1, ixb_1, vpb_1, om_1, ixb_0, vpb_0, s6a, s14a, hW, hC, hcm, c11, q6t, q6s, q7s, q5s, q5t, d2, d2', d3', p1, eq_self, one0, if_true, if_false, not_true_eq_false, not_false_eq_true, true_implies, false_implies, implies_true, and_true, true_and], by simp only [P_M_connect_52, pT_chosen, P_M_connect_84, P_M_connect_95, P_M_connect_138, P_M_connect_142, P_M_connect_143, vN_1, mN_1, nO_1, pO_1, ixb_1, vpb_1, om_1, ixb_0, vpb_0, s6a, s14a, hM, hM8, hMn, hMge, c11, k6t, k6s, k7s, d2, d2', d3', cc.1, eq_self, one0, if_true, if_false, not_true_eq_false, not_false_eq_true, true_implies, false_implies, implies_true, and_true, true_and], ?_⟩
            rw [eV, eM]
            exact ⟨rfl, hJ2⟩
          · obtain ⟨⟨p1, p2⟩, hJ2⟩ := con_all_1 fz hz hR hI cl hs8
            have cc := cv_connect fz hz (s := 1) (t := 0) (by decide) (by decide) (by decide) 1 (u2 m 27 23 1) p2
            have eV : B_V_connect_56 fz v = (1 + nI 1, B_V_beginUpdate_71 fz 11 (u2 (u2 (u2 (u2 (u2 v 0 3 1) 11 5 (-1 : Int32)) 11 12 1) 1 13 1) 1 8 1)) := by simp only [B_V_connect_56, B_V_connect_102, B_V_beginUpdate, B_V_beginUpdate_33, B_V_beginUpdate_29, B_V_beginUpdate_34, B_V_beginUpdate_53, vN_1, mN_1, nO_1, pO_1, ixb_1, vpb_1, om_1, ixb_0, vpb_0, s6a, s14a, hW, hC, hcm, c11, q6t, q6s, q7s, q5s, q5t, d0, d1, d2, eq_self, one0, if_true, if_false, not_true_eq_false, not_false_eq_true, true_implies, false_implies, implies_true, and_true, true_and]
            have eM : B_M_connect_52 fz m = (1 + nI 1, B_M_endIfEmpty fz (nI 1) (u2 (u2 (u2 (rs 35 (32 * 1 + 0) (32 * 1 + 32) (fun k => bi (!(decide ((1 : Int32) = 0) && decide ((u2 m 27 23 1) 35 k = 0) && decide ((u2 m 27 23 1) 35 (32 * 0 + (k - 32 * 1)) = 0)))) (u2 m 27 23 1)) 44 1 1) 45 0 1) 40 0 1)) := by simp only [B_M_connect_52, B_M_connect_84, B_M_connect_95, B_M_connect_138, B_M_connect_142, B_M_connect_143, vN_1, mN_1, nO_1, pO_1, ixb_1, vpb_1, om_1, ixb_0, vpb_0, s6a, s14a, hM, hM8, hMn, hMge, c11, k6t, k6s, k7s, d0, d1, d2, cc.2, B_M_connect_232, eq_self, one0, if_true, if_false, not_true_eq_false, not_false_eq_true, true_implies, false_implies, implies_true, and_true, true_and]
            refine ⟨by simp only [P_V_connect_56, P_V_connect_102, pT_went, pT_choose, P_V_beginUpdate, P_V_beginUpdate_33, P_V_beginUpdate_29, P_V_beginUpdate_34, P_V_beginUpdate_53, pT_nodeOf, pT_peerOf, vN_1, mN_1, nO_1, pO_1, ixb_1, vpb_1, om_1, ixb_0, vpb_0, s6a, s14a, hW, hC, hcm, c11, q6t, q6s, q7s, q5s, q5t, d0, d1, d2, p1, eq_self, one0, if_true, if_false, not_true_eq_false, not_false_eq_true, true_implies, false_implies, implies_true, and_true, true_and], by simp only [P_M_connect_52, pT_chosen, P_M_connect_84, P_M_connect_95, P_M_connect_138, P_M_connect_142, P_M_connect_143, vN_1, mN_1, nO_1, pO_1, ixb_1, vpb_1, om_1, ixb_0, vpb_0, s6a, s14a, hM, hM8, hMn, hMge, c11, k6t, k6s, k7s, d0, d1, d2, cc.1, eq_self, one0, if_true, if_false, not_true_eq_false, not_false_eq_true, true_implies, false_implies, implies_true, and_true, true_and], ?_⟩
            rw [eV, eM]
            exact ⟨rfl, hJ2⟩
    · have eV : B_V_connect_56 fz v = (-10, v) := by simp only [B_V_connect_56, vN_1, mN_1, nO_1, pO_1, ixb_1, vpb_1, om_1, ixb_0, vpb_0, s6a, s14a, hW, hC, hcm, c11, eq_self, one0, if_true, if_false, not_true_eq_false, not_false_eq_true, true_implies, false_implies, implies_true, and_true, true_and]
      have eM : B_M_connect_52 fz m = (-10, m) := by simp only [B_M_connect_52, vN_1, mN_1, nO_1, pO_1, ixb_1, vpb_1, om_1, ixb_0, vpb_0, s6a, s14a, hM, hM8, hMn, c11, eq_self, one0, if_true, if_false, not_true_eq_false, not_false_eq_true, true_implies, false_implies, implies_true, and_true, true_and]
      refine ⟨by simp only [P_V_connect_56, pT_went, pT_choose, pT_peerOf, vN_1, mN_1, nO_1, pO_1, ixb_1, vpb_1, om_1, ixb_0, vpb_0, s6a, s14a, hW, hC, hcm, c11, eq_self, one0, if_true, if_false, not_true_eq_false, not_false_eq_true, true_implies, false_implies, implies_true, and_true, true_and], by simp only [P_M_connect_52, pT_chosen, vN_1, mN_1, nO_1, pO_1, ixb_1, vpb_1, om_1, ixb_0, vpb_0, s6a, s14a, hM, hM8, hMn, c11, eq_self, one0, if_true, if_false, not_true_eq_false, not_false_eq_true, true_implies, false_implies, implies_true, and_true, true_and], ?_⟩
      rw [eV, eM]
      exact RS.same hJ0 _
theorem S_connect (fz : Nat) (hz : 400 ≤ fz) {t : Nat} (ht : t ≤ 600) {v m : HH} (hJ : J2 t v m) : P_V_connect fz v ∧ P_M_connect fz m ∧ RS t (B_V_connect fz v) (B_M_connect fz m) := by
  have hJ0 := hJ
  obtain ⟨n, own, blk, ep, ft, sc, lk, gr, mp, un, q, wt, wx, lg, us, pv, hR, hI⟩ := hJ
  have hR' := hR
  obtain ⟨hL, hT, hX, hS0, hM0, hD0, hR0, hA0, hW0, hG0, hU0, hE0, hS1, hM1, hD1, hR1, hA1, hW1, hG1, hU1, hE1⟩ := hR'
  have hI' := hI
  obtain ⟨iT, iG, iN0, iN1, iQ0, iQ1, iR0, iR1, iW, iC, iK, iE⟩ := hI'
  obtain ⟨s0a, s1a, s2a, s3a, s4a, s5a, s6a, s7a, s8a, s9a, s10a, s11a, s12a, s13a, s14a, s15a, s16a⟩ := hS0
  obtain ⟨s0b, s1b, s2b, s3b, s4b, s5b, s6b, s7b, s8b, s9b, s10b, s11b, s12b, s13b, s14b, s15b, s16b⟩ := hS1
  obtain ⟨l1, l2, l3, l4⟩ := hL
  have f10a := s5a
  by_cases a0 : sc 10 0 = 0
  · have eV : B_V_connect fz v = (-2, v) := by simp only [B_V_connect, s5a, s13a, s6a, s14a, s5b, s13b, s6b, s14b, l1, l3, z0, z1, a0, eq_self, one0, if_true, if_false, not_true_eq_false, not_false_eq_true, true_implies, false_implies, implies_true, and_true, true_and]
    have eM : B_M_connect fz m = (-2, m) := by simp only [B_M_connect, s5a, s13a, s6a, s14a, s5b, s13b, s6b, s14b, l1, l3, z0, z1, a0, eq_self, one0, if_true, if_false, not_true_eq_false, not_false_eq_true, true_implies, false_implies, implies_true, and_true, true_and]
    refine ⟨by simp only [P_V_connect, s5a, s13a, s6a, s14a, s5b, s13b, s6b, s14b, l1, l3, z0, z1, a0, eq_self, one0, if_true, if_false, not_true_eq_false, not_false_eq_true, true_implies, false_implies, implies_true, and_true, true_and], by simp only [P_M_connect, pz0, pz1, s5a, s13a, s6a, s14a, s5b, s13b, s6b, s14b, l1, l3, z0, z1, a0, eq_self, one0, if_true, if_false, not_true_eq_false, not_false_eq_true, true_implies, false_implies, implies_true, and_true, true_and], ?_⟩
    rw [eV, eM]
    exact RS.same hJ0 _
  · by_cases a1 : sc 10 1 = 0
    · have eV : B_V_connect fz v = (-2, v) := by simp only [B_V_connect, s5a, s13a, s6a, s14a, s5b, s13b, s6b, s14b, l1, l3, z0, z1, a0, a1, eq_self, one0, if_true, if_false, not_true_eq_false, not_false_eq_true, true_implies, false_implies, implies_true, and_true, true_and]
      have eM : B_M_connect fz m = (-2, m) := by simp only [B_M_connect, s5a, s13a, s6a, s14a, s5b, s13b, s6b, s14b, l1, l3, z0, z1, a0, a1, eq_self, one0, if_true, if_false, not_true_eq_false, not_false_eq_true, true_implies, false_implies, implies_true, and_true, true_and]
      refine ⟨by simp only [P_V_connect, s5a, s13a, s6a, s14a, s5b, s13b, s6b, s14b, l1, l3, z0, z1, a0, a1, eq_self, one0, if_true, if_false, not_true_eq_false, not_false_eq_true, true_implies, false_implies, implies_true, and_true, true_and], by simp only [P_M_connect, pz0, pz1, s5a, s13a, s6a, s14a, s5b, s13b, s6b, s14b, l1, l3, z0, z1, a0, a1, eq_self, one0, if_true, if_false, not_true_eq_false, not_false_eq_true, true_implies, false_implies, implies_true, and_true, true_and], ?_⟩
      rw [eV, eM]
      exact RS.same hJ0 _
    · by_cases cl : lk = 0
      · by_cases b0 : sc 11 0 = 0
        · obtain ⟨p1, p2, p3⟩ := con56 fz hz ht hJ0 hR hI cl
          have eV : B_V_connect fz v = B_V_connect_56 fz v := by simp only [B_V_connect, s5a, s13a, s6a, s14a, s5b, s13b, s6b, s14b, l1, l3, z0, z1, a0, a1, cl, b0, eq_self, one0, if_true, if_false, not_true_eq_false, not_false_eq_true, true_implies, false_implies, implies_true, and_true, true_and]
          have eM : B_M_connect fz m = B_M_connect_52 fz m := by simp only [B_M_connect, s5a, s13a, s6a, s14a, s5b, s13b, s6b, s14b, l1, l3, z0, z1, a0, a1, cl, b0, eq_self, one0, if_true, if_false, not_true_eq_false, not_false_eq_true, true_implies, false_implies, implies_true, and_true, true_and]
          refine ⟨by simp only [P_V_connect, s5a, s13a, s6a, s14a, s5b, s13b, s6b, s14b, l1, l3, z0, z1, a0, a1, cl, b0, p1, eq_self, one0, if_true, if_false, not_true_eq_false, not_false_eq_true, true_implies, false_implies, implies_true, and_true, true_and], by simp only [P_M_connect, pz0, pz1, s5a, s13a, s6a, s14a, s5b, s13b, s6b, s14b, l1, l3, z0, z1, a0, a1, cl, b0, p2, eq_self, one0, if_true, if_false, not_true_eq_false, not_false_eq_true, true_implies, false_implies, implies_true, and_true, true_and], ?_⟩
          rw [eV, eM]
          exact p3
        · by_cases b1 : sc 11 1 = 0
          · obtain ⟨p1, p2, p3⟩ := con56 fz hz ht hJ0 hR hI cl
            have eV : B_V_connect fz v = B_V_connect_56 fz v := by simp only [B_V_connect, s5a, s13a, s6a, s14a, s5b, s13b, s6b, s14b, l1, l3, z0, z1, a0, a1, cl, b0, b1, eq_self, one0, if_true, if_false, not_true_eq_false, not_false_eq_true, true_implies, false_implies, implies_true, and_true, true_and]
            have eM : B_M_connect fz m = B_M_connect_52 fz m := by simp only [B_M_connect, s5a, s13a, s6a, s14a, s5b, s13b, s6b, s14b, l1, l3, z0, z1, a0, a1, cl, b0, b1, eq_self, one0, if_true, if_false, not_true_eq_false, not_false_eq_true, true_implies, false_implies, implies_true, and_true, true_and]
            refine ⟨by simp only [P_V_connect, s5a, s13a, s6a, s14a, s5b, s13b, s6b, s14b, l1, l3, z0, z1, a0, a1, cl, b0, b1, p1, eq_self, one0, if_true, if_false, not_true_eq_false, not_false_eq_true, true_implies, false_implies, implies_true, and_true, true_and], by simp only [P_M_connect, pz0, pz1, s5a, s13a, s6a, s14a, s5b, s13b, s6b, s14b, l1, l3, z0, z1, a0, a1, cl, b0, b1, p2, eq_self, one0, if_true, if_false, not_true_eq_false, not_false_eq_true, true_implies, false_implies, implies_true, and_true, true_and], ?_⟩
            rw [eV, eM]
            exact p3
          · have eV : B_V_connect fz v = (-7, v) := by simp only [B_V_connect, s5a, s13a, s6a, s14a, s5b, s13b, s6b, s14b, l1, l3, z0, z1, a0, a1, cl, b0, b1, eq_self, one0, if_true, if_false, not_true_eq_false, not_false_eq_true, true_implies, false_implies, implies_true, and_true, true_and]
            have eM : B_M_connect fz m = (-7, m) := by simp only [B_M_connect, s5a, s13a, s6a, s14a, s5b, s13b, s6b, s14b, l1, l3, z0, z1, a0, a1, cl, b0, b1, eq_self, one0, if_true, if_false, not_true_eq_false, not_false_eq_true, true_implies, false_implies, implies_true, and_true, true_and]
            refine ⟨by simp only [P_V_connect, s5a, s13a, s6a, s14a, s5b, s13b, s6b, s14b, l1, l3, z0, z1, a0, a1, cl, b0, b1, eq_self, one0, if_true, if_false, not_true_eq_false, not_false_eq_true, true_implies, false_implies, implies_true, and_true, true_and], by simp only [P_M_connect, pz0, pz1, s5a, s13a, s6a, s14a, s5b, s13b, s6b, s14b, l1, l3, z0, z1, a0, a1, cl, b0, b1, eq_self, one0, if_true, if_false, not_true_eq_false, not_false_eq_true, true_implies, false_implies, implies_true, and_true, true_and], ?_⟩
            rw [eV, eM]
            exact RS.same hJ0 _
      · have eV : B_V_connect fz v = (-9, v) := by simp only [B_V_connect, s5a, s13a, s6a, s14a, s5b, s13b, s6b, s14b, l1, l3, z0, z1, a0, a1, cl, eq_self, one0, if_true, if_false, not_true_eq_false, not_false_eq_true, true_implies, false_implies, implies_true, and_true, true_and]
        have eM : B_M_connect fz m = (-9, m) := by simp only [B_M_connect, s5a, s13a, s6a, s14a, s5b, s13b, s6b, s14b, l1, l3, z0, z1, a0, a1, cl, eq_self, one0, if_true, if_false, not_true_eq_false, not_false_eq_true, true_implies, false_implies, implies_true, and_true, true_and]
        refine ⟨by simp only [P_V_connect, s5a, s13a, s6a, s14a, s5b, s13b, s6b, s14b, l1, l3, z0, z1, a0, a1, cl, eq_self, one0, if_true, if_false, not_true_eq_false, not_false_eq_true, true_implies, false_implies, implies_true, and_true, true_and], by simp only [P_M_connect, pz0, pz1, s5a, s13a, s6a, s14a, s5b, s13b, s6b, s14b, l1, l3, z0, z1, a0, a1, cl, eq_self, one0, if_true, if_false, not_true_eq_false, not_false_eq_true, true_implies, false_implies, implies_true, and_true, true_and], ?_⟩
        rw [eV, eM]
        exact RS.same hJ0 _
