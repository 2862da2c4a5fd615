theorem S_state (fz : Nat) (hz : 400 ≤ fz) {t : Nat} {v m : HH} (hJ : J2 t v m) (x : Int32) : P_V_state fz x v ∧ P_M_state fz x m ∧ B_V_state fz x v = B_M_state fz x m := by
  rcases ndc x with ⟨h0, h1⟩ | rfl | rfl
  · exact ⟨by simp only [P_V_state, pT_isNode, vN_n fz v h0 h1, eq_self, one0, if_true, if_false, not_true_eq_false, not_false_eq_true, true_implies, false_implies, implies_true, and_true, true_and], by simp only [P_M_state, pT_isNodeM, mN_n fz m h0 h1, eq_self, one0, if_true, if_false, not_true_eq_false, not_false_eq_true, true_implies, false_implies, implies_true, and_true, true_and], by simp only [B_V_state, B_M_state, vN_n fz v h0 h1, mN_n fz m h0 h1, eq_self, one0, if_true, if_false, not_true_eq_false, not_false_eq_true, true_implies, false_implies, implies_true, and_true, true_and]⟩
  · obtain ⟨n, own, blk, ep, ft, sc, lk, gr, mp, un, q, wt, wx, lg, us, pv, hR, hI⟩ := hJ
    have hR' := hR
    obtain ⟨hL, hT, hX, hS0, hM0, hD0, hR0, hA0, hW0, hG0, hU0, hE0, hS1, hM1, hD1, hR1, hA1, hW1, hG1, hU1, hE1⟩ := hR'
    have hI' := hI
    obtain ⟨iT, iG, iN0, iN1, iQ0, iQ1, iR0, iR1, iW, iC, iK, iE⟩ := hI'
    obtain ⟨s0a, s1a, s2a, s3a, s4a, s5a, s6a, s7a, s8a, s9a, s10a, s11a, s12a, s13a, s14a, s15a, s16a⟩ := hS0
    obtain ⟨s0b, s1b, s2b, s3b, s4b, s5b, s6b, s7b, s8b, s9b, s10b, s11b, s12b, s13b, s14b, s15b, s16b⟩ := hS1
    obtain ⟨l1, l2, l3, l4⟩ := hL
    refine ⟨by simp only [P_V_state, P_V_state_27, P_V_state_41, P_V_state_56, P_V_state_72, P_V_state_88, P_V_state_104, P_V_state_120, pT_isNode, pT_nodeOf, eq_self, one0, if_true, if_false, not_true_eq_false, not_false_eq_true, true_implies, false_implies, implies_true, and_true, true_and], by simp only [P_M_state, P_M_state_23, P_M_state_37, P_M_state_52, P_M_state_68, P_M_state_84, P_M_state_100, P_M_state_116, pT_isNodeM, vN_0, mN_0, nO_0, pO_0, ixb_0, vpb_0, om_0, ixb_1, vpb_1, s3a, s11a, s4a, s12a, s5a, s13a, s6a, s14a, s7a, s15a, s8a, s16a, l1, l3, eq_self, one0, if_true, if_false, not_true_eq_false, not_false_eq_true, true_implies, false_implies, implies_true, and_true, true_and], ?_⟩
    simp only [B_V_state, B_V_state_27, B_V_state_41, B_V_state_56, B_V_state_72, B_V_state_88, B_V_state_104, B_V_state_120, B_M_state, B_M_state_23, B_M_state_37, B_M_state_52, B_M_state_68, B_M_state_84, B_M_state_100, B_M_state_116, vN_0, mN_0, nO_0, pO_0, ixb_0, vpb_0, om_0, ixb_1, vpb_1, s3a, s11a, s4a, s12a, s5a, s13a, s6a, s14a, s7a, s15a, s8a, s16a, l1, l3, eq_self, one0, if_true, if_false, not_true_eq_false, not_false_eq_true, true_implies, false_implies, implies_true, and_true, true_and]
  · obtain ⟨n, own, blk, ep, ft, sc, lk, gr, mp, un, q, wt, wx, lg, us, pv, hR, hI⟩ := hJ
    have hR' := hR
    obtain ⟨hL, hT, hX, hS0, hM0, hD0, hR0, hA0, hW0, hG0, hU0, hE0, hS1, hM1, hD1, hR1, hA1, hW1, hG1, hU1, hE1⟩ := hR'
    have hI' := hI
    obtain ⟨iT, iG, iN0, iN1, iQ0, iQ1, iR0, iR1, iW, iC, iK, iE⟩ := hI'
    obtain ⟨s0a, s1a, s2a, s3a, s4a, s5a, s6a, s7a, s8a, s9a, s10a, s11a, s12a, s13a, s14a, s15a, s16a⟩ := hS0
    obtain ⟨s0b, s1b, s2b, s3b, s4b, s5b, s6b, s7b, s8b, s9b, s10b, s11b, s12b, s13b, s14b, s15b, s16b⟩ := hS1
    obtain ⟨l1, l2, l3, l4⟩ := hL
    refine ⟨by simp only [P_V_state, P_V_state_27, P_V_state_41, P_V_state_56, P_V_state_72, P_V_state_88, P_V_state_104, P_V_state_120, pT_isNode, pT_nodeOf, eq_self, one0, if_true, if_false, not_true_eq_false, not_false_eq_true, true_implies, false_implies, implies_true, and_true, true_and], by simp only [P_M_state, P_M_state_23, P_M_state_37, P_M_state_52, P_M_state_68, P_M_state_84, P_M_state_100, P_M_state_116, pT_isNodeM, vN_1, mN_1, nO_1, pO_1, ixb_1, vpb_1, om_1, ixb_0, vpb_0, s3b, s11b, s4b, s12b, s5b, s13b, s6b, s14b, s7b, s15b, s8b, s16b, l1, l3, eq_self, one0, if_true, if_false, not_true_eq_false, not_false_eq_true, true_implies, false_implies, implies_true, and_true, true_and], ?_⟩
    simp only [B_V_state, B_V_state_27, B_V_state_41, B_V_state_56, B_V_state_72, B_V_state_88, B_V_state_104, B_V_state_120, B_M_state, B_M_state_23, B_M_state_37, B_M_state_52, B_M_state_68, B_M_state_84, B_M_state_100, B_M_state_116, vN_1, mN_1, nO_1, pO_1, ixb_1, vpb_1, om_1, ixb_0, vpb_0, s3b, s11b, s4b, s12b, s5b, s13b, s6b, s14b, s7b, s15b, s8b, s16b, l1, l3, eq_self, one0, if_true, if_false, not_true_eq_false, not_false_eq_true, true_implies, false_implies, implies_true, and_true, true_and]
theorem shl32 (x : Int64) : x <<< ((32 : Int32).toInt64 &&& 63) = 4294967296 * x := by
  apply Int64.toBitVec_inj.mp
  rw [Int64.toBitVec_mul]
  have e : ((x <<< ((32 : Int32).toInt64 &&& 63)).toBitVec) = x.toBitVec <<< 32 := by
    rw [Int64.toBitVec_shiftLeft]
    have e2 : (((32 : Int32).toInt64 &&& 63).toBitVec.smod (64 : BitVec 64)) = 32#64 := by decide +kernel
    rw [e2]
    rfl
  rw [e]
  apply BitVec.eq_of_toNat_eq
  rw [BitVec.toNat_shiftLeft, BitVec.toNat_mul]
  have e3 : (4294967296 : Int64).toBitVec.toNat = 4294967296 := by decide +kernel
  rw [e3, Nat.shiftLeft_eq, Nat.mul_comm]
theorem S_generation (fz : Nat) (hz : 400 ≤ fz) {t : Nat} {v m : HH} (hJ : J2 t v m) (x : Int32) : P_V_generation fz x v ∧ P_M_generation fz x m ∧ B_V_generation fz x v = B_M_generation fz x m := by
  rcases ndc x with ⟨h0, h1⟩ | rfl | rfl
  · exact ⟨by simp only [P_V_generation, pT_isNode, vN_n fz v h0 h1, eq_self, one0, if_true, if_false, not_true_eq_false, not_false_eq_true, true_implies, false_implies, implies_true, and_true, true_and], by simp only [P_M_generation, pT_isNodeM, mN_n fz m h0 h1, eq_self, one0, if_true, if_false, not_true_eq_false, not_false_eq_true, true_implies, false_implies, implies_true, and_true, true_and], by simp only [B_V_generation, B_M_generation, vN_n fz v h0 h1, mN_n fz m h0 h1, eq_self, one0, if_true, if_false, not_true_eq_false, not_false_eq_true, true_implies, false_implies, implies_true, and_true, true_and]⟩
  · obtain ⟨n, own, blk, ep, ft, sc, lk, gr, mp, un, q, wt, wx, lg, us, pv, hR, hI⟩ := hJ
    have hR' := hR
    obtain ⟨hL, hT, hX, hS0, hM0, hD0, hR0, hA0, hW0, hG0, hU0, hE0, hS1, hM1, hD1, hR1, hA1, hW1, hG1, hU1, hE1⟩ := hR'
    have hI' := hI
    obtain ⟨iT, iG, iN0, iN1, iQ0, iQ1, iR0, iR1, iW, iC, iK, iE⟩ := hI'
    obtain ⟨s0a, s1a, s2a, s3a, s4a, s5a, s6a, s7a, s8a, s9a, s10a, s11a, s12a, s13a, s14a, s15a, s16a⟩ := hS0
    obtain ⟨s0b, s1b, s2b, s3b, s4b, s5b, s6b, s7b, s8b, s9b, s10b, s11b, s12b, s13b, s14b, s15b, s16b⟩ := hS1
    obtain ⟨l1, l2, l3, l4⟩ := hL
    exact ⟨by simp only [P_V_generation, pT_isNode, pT_nodeOf, eq_self, one0, if_true, if_false, not_true_eq_false, not_false_eq_true, true_implies, false_implies, implies_true, and_true, true_and], by simp only [P_M_generation, pT_isNodeM, vN_0, mN_0, nO_0, pO_0, ixb_0, vpb_0, om_0, ixb_1, vpb_1, s1a, s9a, s2a, s10a, eq_self, one0, if_true, if_false, not_true_eq_false, not_false_eq_true, true_implies, false_implies, implies_true, and_true, true_and], by simp only [B_V_generation, B_M_generation, vN_0, mN_0, nO_0, pO_0, ixb_0, vpb_0, om_0, ixb_1, vpb_1, s1a, s9a, s2a, s10a, shl32, eq_self, one0, if_true, if_false, not_true_eq_false, not_false_eq_true, true_implies, false_implies, implies_true, and_true, true_and]⟩
  · obtain ⟨n, own, blk, ep, ft, sc, lk, gr, mp, un, q, wt, wx, lg, us, pv, hR, hI⟩ := hJ
    have hR' := hR
    obtain ⟨hL, hT, hX, hS0, hM0, hD0, hR0, hA0, hW0, hG0, hU0, hE0, hS1, hM1, hD1, hR1, hA1, hW1, hG1, hU1, hE1⟩ := hR'
    have hI' := hI
    obtain ⟨iT, iG, iN0, iN1, iQ0, iQ1, iR0, iR1, iW, iC, iK, iE⟩ := hI'
    obtain ⟨s0a, s1a, s2a, s3a, s4a, s5a, s6a, s7a, s8a, s9a, s10a, s11a, s12a, s13a, s14a, s15a, s16a⟩ := hS0
    obtain ⟨s0b, s1b, s2b, s3b, s4b, s5b, s6b, s7b, s8b, s9b, s10b, s11b, s12b, s13b, s14b, s15b, s16b⟩ := hS1
    obtain ⟨l1, l2, l3, l4⟩ := hL
    exact ⟨by simp only [P_V_generation, pT_isNode, pT_nodeOf, eq_self, one0, if_true, if_false, not_true_eq_false, not_false_eq_true, true_implies, false_implies, implies_true, and_true, true_and], by simp only [P_M_generation, pT_isNodeM, vN_1, mN_1, nO_1, pO_1, ixb_1, vpb_1, om_1, ixb_0, vpb_0, s1b, s9b, s2b, s10b, eq_self, one0, if_true, if_false, not_true_eq_false, not_false_eq_true, true_implies, false_implies, implies_true, and_true, true_and], by simp only [B_V_generation, B_M_generation, vN_1, mN_1, nO_1, pO_1, ixb_1, vpb_1, om_1, ixb_0, vpb_0, s1b, s9b, s2b, s10b, shl32, eq_self, one0, if_true, if_false, not_true_eq_false, not_false_eq_true, true_implies, false_implies, implies_true, and_true, true_and]⟩
theorem S_map (fz : Nat) (hz : 400 ≤ fz) {t : Nat} {v m : HH} (hJ : J2 t v m) (x : Int32) : P_V_map fz x v ∧ P_M_map fz x m ∧ B_V_map fz x v = B_M_map fz x m := by
  rcases ndc x with ⟨h0, h1⟩ | rfl | rfl
  · exact ⟨by simp only [P_V_map, pT_isNode, vN_n fz v h0 h1, eq_self, one0, if_true, if_false, not_true_eq_false, not_false_eq_true, true_implies, false_implies, implies_true, and_true, true_and], by simp only [P_M_map, pT_isNodeM, mN_n fz m h0 h1, eq_self, one0, if_true, if_false, not_true_eq_false, not_false_eq_true, true_implies, false_implies, implies_true, and_true, true_and], by simp only [B_V_map, B_M_map, vN_n fz v h0 h1, mN_n fz m h0 h1, eq_self, one0, if_true, if_false, not_true_eq_false, not_false_eq_true, true_implies, false_implies, implies_true, and_true, true_and]⟩
  · obtain ⟨n, own, blk, ep, ft, sc, lk, gr, mp, un, q, wt, wx, lg, us, pv, hR, hI⟩ := hJ
    have hR' := hR
    obtain ⟨hL, hT, hX, hS0, hM0, hD0, hR0, hA0, hW0, hG0, hU0, hE0, hS1, hM1, hD1, hR1, hA1, hW1, hG1, hU1, hE1⟩ := hR'
    have hI' := hI
    obtain ⟨iT, iG, iN0, iN1, iQ0, iQ1, iR0, iR1, iW, iC, iK, iE⟩ := hI'
    obtain ⟨s0a, s1a, s2a, s3a, s4a, s5a, s6a, s7a, s8a, s9a, s10a, s11a, s12a, s13a, s14a, s15a, s16a⟩ := hS0
    obtain ⟨s0b, s1b, s2b, s3b, s4b, s5b, s6b, s7b, s8b, s9b, s10b, s11b, s12b, s13b, s14b, s15b, s16b⟩ := hS1
    obtain ⟨l1, l2, l3, l4⟩ := hL
    have c := cv_map fz hz (b := 0) (by decide) m
    refine ⟨by simp only [P_V_map, pT_isNode, pT_nodeOf, eq_self, one0, if_true, if_false, not_true_eq_false, not_false_eq_true, true_implies, false_implies, implies_true, and_true, true_and], by simp only [P_M_map, pT_isNodeM, vN_0, mN_0, nO_0, pO_0, ixb_0, vpb_0, om_0, ixb_1, vpb_1, c.1, eq_self, one0, if_true, if_false, not_true_eq_false, not_false_eq_true, true_implies, false_implies, implies_true, and_true, true_and], ?_⟩
    simp only [B_V_map, B_M_map, vN_0, mN_0, nO_0, pO_0, ixb_0, vpb_0, om_0, ixb_1, vpb_1, eq_self, one0, if_true, if_false, not_true_eq_false, not_false_eq_true, true_implies, false_implies, implies_true, and_true, true_and]
    apply b_ext
    intro j hj
    have g := hM0 j hj
    have c2 := c.2 j hj
    rw [b_0, g.2, bi_0] at c2
    rw [g.1]
    cases hm : mp 0 j with
    | true => exact (c2.mpr (Or.inr ⟨Nat.zero_le _, by rw [hm]; decide⟩)).symm
    | false =>
      cases hr : bt (B_M_map_13 fz fz (nI 0) 0 0 m) j with
      | false => rfl
      | true =>
        rw [hr, hm] at c2
        rcases c2.mp rfl with r | r
        · cases r
        · exact absurd rfl r.2
  · obtain ⟨n, own, blk, ep, ft, sc, lk, gr, mp, un, q, wt, wx, lg, us, pv, hR, hI⟩ := hJ
    have hR' := hR
    obtain ⟨hL, hT, hX, hS0, hM0, hD0, hR0, hA0, hW0, hG0, hU0, hE0, hS1, hM1, hD1, hR1, hA1, hW1, hG1, hU1, hE1⟩ := hR'
    have hI' := hI
    obtain ⟨iT, iG, iN0, iN1, iQ0, iQ1, iR0, iR1, iW, iC, iK, iE⟩ := hI'
    obtain ⟨s0a, s1a, s2a, s3a, s4a, s5a, s6a, s7a, s8a, s9a, s10a, s11a, s12a, s13a, s14a, s15a, s16a⟩ := hS0
    obtain ⟨s0b, s1b, s2b, s3b, s4b, s5b, s6b, s7b, s8b, s9b, s10b, s11b, s12b, s13b, s14b, s15b, s16b⟩ := hS1
    obtain ⟨l1, l2, l3, l4⟩ := hL
    have c := cv_map fz hz (b := 1) (by decide) m
    refine ⟨by simp only [P_V_map, pT_isNode, pT_nodeOf, eq_self, one0, if_true, if_false, not_true_eq_false, not_false_eq_true, true_implies, false_implies, implies_true, and_true, true_and], by simp only [P_M_map, pT_isNodeM, vN_1, mN_1, nO_1, pO_1, ixb_1, vpb_1, om_1, ixb_0, vpb_0, c.1, eq_self, one0, if_true, if_false, not_true_eq_false, not_false_eq_true, true_implies, false_implies, implies_true, and_true, true_and], ?_⟩
    simp only [B_V_map, B_M_map, vN_1, mN_1, nO_1, pO_1, ixb_1, vpb_1, om_1, ixb_0, vpb_0, eq_self, one0, if_true, if_false, not_true_eq_false, not_false_eq_true, true_implies, false_implies, implies_true, and_true, true_and]
    apply b_ext
    intro j hj
    have g := hM1 j hj
    have c2 := c.2 j hj
    rw [b_0, g.2, bi_0] at c2
    rw [g.1]
    cases hm : mp 1 j with
    | true => exact (c2.mpr (Or.inr ⟨Nat.zero_le _, by rw [hm]; decide⟩)).symm
    | false =>
      cases hr : bt (B_M_map_13 fz fz (nI 1) 0 0 m) j with
      | false => rfl
      | true =>
        rw [hr, hm] at c2
        rcases c2.mp rfl with r | r
        · cases r
        · exact absurd rfl r.2
theorem blc (y : Int32) : (∃ j, j < 32 ∧ y = nI j) ∨ (∀ (fz : Nat) (h : HH), B_V_isBlock fz y h = 0 ∧ B_M_isBlock fz y h = 0) := by
  rcases pk_ix y (n := 32) (by decide) with h | h | h
  · exact Or.inr (fun fz k => ⟨by rw [B_V_isBlock, if_pos h], by rw [B_M_isBlock, if_pos h]⟩)
  · refine Or.inr (fun fz k => ⟨?_, ?_⟩)
    · unfold B_V_isBlock
      by_cases h0 : y < 0
      · rw [if_pos h0]
      · rw [if_neg h0, if_pos (by rw [li32]; exact h)]
    · unfold B_M_isBlock
      by_cases h0 : y < 0
      · rw [if_pos h0]
      · rw [if_neg h0, if_pos (Int32.lt_of_lt_of_le (show (31 : Int32) < 32 by decide) (show (32 : Int32) ≤ y by rw [li32]; exact h))]
  · exact Or.inl h
theorem blk_V (fz : Nat) (h : HH) {j : Nat} (hj : j < 32) : B_V_isBlock fz (nI j) h = 1 := by rw [B_V_isBlock, if_neg (nI_pos (by omega)), if_neg (by rw [li32]; exact nI_ge (by omega) (by omega))]
theorem blk_M (fz : Nat) (h : HH) {j : Nat} (hj : j < 32) : B_M_isBlock fz (nI j) h = 1 := by rw [B_M_isBlock, if_neg (nI_pos (by omega)), if_neg (by rw [li31]; exact nI_nlt (by omega) (by omega))]
theorem pT_isBlock (fz : Nat) (x : Int32) (h : HH) : P_V_isBlock fz x h := by simp [P_V_isBlock]
theorem pT_isBlockM (fz : Nat) (x : Int32) (h : HH) : P_M_isBlock fz x h := by simp [P_M_isBlock]
theorem S_disk (fz : Nat) (hz : 400 ≤ fz) {t : Nat} {v m : HH} (hJ : J2 t v m) (x : Int32) (y : Int32) : P_V_disk fz x y v ∧ P_M_disk fz x y m ∧ B_V_disk fz x y v = B_M_disk fz x y m := by
  rcases ndc x with ⟨h0, h1⟩ | rfl | rfl
  · exact ⟨by simp only [P_V_disk, pT_isNode, vN_n fz v h0 h1, eq_self, one0, if_true, if_false, not_true_eq_false, not_false_eq_true, true_implies, false_implies, implies_true, and_true, true_and], by simp only [P_M_disk, pT_isNodeM, mN_n fz m h0 h1, eq_self, one0, if_true, if_false, not_true_eq_false, not_false_eq_true, true_implies, false_implies, implies_true, and_true, true_and], by simp only [B_V_disk, B_M_disk, vN_n fz v h0 h1, mN_n fz m h0 h1, eq_self, one0, if_true, if_false, not_true_eq_false, not_false_eq_true, true_implies, false_implies, implies_true, and_true, true_and]⟩
  · rcases blc y with ⟨j, hj, rfl⟩ | hb
    · obtain ⟨n, own, blk, ep, ft, sc, lk, gr, mp, un, q, wt, wx, lg, us, pv, hR, hI⟩ := hJ
      obtain ⟨hL, hT, hX, hS0, hM0, hD0, hR0, hA0, hW0, hG0, hU0, hE0, hS1, hM1, hD1, hR1, hA1, hW1, hG1, hU1, hE1⟩ := hR
      have hxj : ix (nI j) = j := nI_clamp (by omega)
      have hvj : vp_in (nI j) 32 := vp_in_nI hj (by decide)
      have hx : ix (nI (32 * 0 + j)) = 32 * 0 + j := nI_clamp (by omega)
      have hv : vp_in (nI (32 * 0 + j)) 64 := vp_in_nI (by omega) (by decide)
      have g := hD0 j hj
      refine ⟨by simp only [P_V_disk, pT_isNode, pT_isBlock, pT_nodeOf, hvj, eq_self, one0, if_true, if_false, not_true_eq_false, not_false_eq_true, true_implies, false_implies, implies_true, and_true, true_and], by simp only [P_M_disk, pT_isNodeM, pT_isBlockM, x32, hv, eq_self, one0, if_true, if_false, not_true_eq_false, not_false_eq_true, true_implies, false_implies, implies_true, and_true, true_and], ?_⟩
      simp only [B_V_disk, B_M_disk, vN_0, mN_0, nO_0, pO_0, ixb_0, vpb_0, om_0, ixb_1, vpb_1, blk_V fz v hj, blk_M fz m hj, x32, hx, hxj, eq_self, one0, if_true, if_false, not_true_eq_false, not_false_eq_true, true_implies, false_implies, implies_true, and_true, true_and]
      exact g
    · exact ⟨by simp only [P_V_disk, pT_isNode, pT_isBlock, vN_0, mN_0, nO_0, pO_0, ixb_0, vpb_0, om_0, ixb_1, vpb_1, (hb fz v).1, eq_self, one0, if_true, if_false, not_true_eq_false, not_false_eq_true, true_implies, false_implies, implies_true, and_true, true_and], by simp only [P_M_disk, pT_isNodeM, pT_isBlockM, vN_0, mN_0, nO_0, pO_0, ixb_0, vpb_0, om_0, ixb_1, vpb_1, (hb fz m).2, eq_self, one0, if_true, if_false, not_true_eq_false, not_false_eq_true, true_implies, false_implies, implies_true, and_true, true_and], by simp only [B_V_disk, B_M_disk, vN_0, mN_0, nO_0, pO_0, ixb_0, vpb_0, om_0, ixb_1, vpb_1, (hb fz v).1, (hb fz m).2, eq_self, one0, if_true, if_false, not_true_eq_false, not_false_eq_true, true_implies, false_implies, implies_true, and_true, true_and]⟩
  · rcases blc y with ⟨j, hj, rfl⟩ | hb
    · obtain ⟨n, own, blk, ep, ft, sc, lk, gr, mp, un, q, wt, wx, lg, us, pv, hR, hI⟩ := hJ
      obtain ⟨hL, hT, hX, hS0, hM0, hD0, hR0, hA0, hW0, hG0, hU0, hE0, hS1, hM1, hD1, hR1, hA1, hW1, hG1, hU1, hE1⟩ := hR
      have hxj : ix (nI j) = j := nI_clamp (by omega)
      have hvj : vp_in (nI j) 32 := vp_in_nI hj (by decide)
      have hx : ix (nI (32 * 1 + j)) = 32 * 1 + j := nI_clamp (by omega)
      have hv : vp_in (nI (32 * 1 + j)) 64 := vp_in_nI (by omega) (by decide)
      have g := hD1 j hj
      refine ⟨by simp only [P_V_disk, pT_isNode, pT_isBlock, pT_nodeOf, hvj, eq_self, one0, if_true, if_false, not_true_eq_false, not_false_eq_true, true_implies, false_implies, implies_true, and_true, true_and], by simp only [P_M_disk, pT_isNodeM, pT_isBlockM, x32, hv, eq_self, one0, if_true, if_false, not_true_eq_false, not_false_eq_true, true_implies, false_implies, implies_true, and_true, true_and], ?_⟩
      simp only [B_V_disk, B_M_disk, vN_1, mN_1, nO_1, pO_1, ixb_1, vpb_1, om_1, ixb_0, vpb_0, blk_V fz v hj, blk_M fz m hj, x32, hx, hxj, eq_self, one0, if_true, if_false, not_true_eq_false, not_false_eq_true, true_implies, false_implies, implies_true, and_true, true_and]
      exact g
    · exact ⟨by simp only [P_V_disk, pT_isNode, pT_isBlock, vN_1, mN_1, nO_1, pO_1, ixb_1, vpb_1, om_1, ixb_0, vpb_0, (hb fz v).1, eq_self, one0, if_true, if_false, not_true_eq_false, not_false_eq_true, true_implies, false_implies, implies_true, and_true, true_and], by simp only [P_M_disk, pT_isNodeM, pT_isBlockM, vN_1, mN_1, nO_1, pO_1, ixb_1, vpb_1, om_1, ixb_0, vpb_0, (hb fz m).2, eq_self, one0, if_true, if_false, not_true_eq_false, not_false_eq_true, true_implies, false_implies, implies_true, and_true, true_and], by simp only [B_V_disk, B_M_disk, vN_1, mN_1, nO_1, pO_1, ixb_1, vpb_1, om_1, ixb_0, vpb_0, (hb fz v).1, (hb fz m).2, eq_self, one0, if_true, if_false, not_true_eq_false, not_false_eq_true, true_implies, false_implies, implies_true, and_true, true_and]⟩
theorem S_fate (fz : Nat) (hz : 400 ≤ fz) {t : Nat} {v m : HH} (hJ : J2 t v m) (x : Int32) : P_V_fate fz x v ∧ P_M_fate fz x m ∧ B_V_fate fz x v = B_M_fate fz x m := by
  obtain ⟨n, own, blk, ep, ft, sc, lk, gr, mp, un, q, wt, wx, lg, us, pv, hR, hI⟩ := hJ
  have hR' := hR
  obtain ⟨hL, hT, hX, hS0, hM0, hD0, hR0, hA0, hW0, hG0, hU0, hE0, hS1, hM1, hD1, hR1, hA1, hW1, hG1, hU1, hE1⟩ := hR'
  have hI' := hI
  obtain ⟨iT, iG, iN0, iN1, iQ0, iQ1, iR0, iR1, iW, iC, iK, iE⟩ := hI'
  obtain ⟨s0a, s1a, s2a, s3a, s4a, s5a, s6a, s7a, s8a, s9a, s10a, s11a, s12a, s13a, s14a, s15a, s16a⟩ := hS0
  obtain ⟨s0b, s1b, s2b, s3b, s4b, s5b, s6b, s7b, s8b, s9b, s10b, s11b, s12b, s13b, s14b, s15b, s16b⟩ := hS1
  obtain ⟨l1, l2, l3, l4⟩ := hL
  have a1 := hT.1
  have a2 := hT.2.1
  by_cases c1 : x < 1
  · exact ⟨by simp only [P_V_fate, P_T_has, B_T_has, c1, eq_self, one0, if_true, if_false, not_true_eq_false, not_false_eq_true, true_implies, false_implies, implies_true, and_true, true_and], by simp only [P_M_fate, c1, eq_self, one0, if_true, if_false, not_true_eq_false, not_false_eq_true, true_implies, false_implies, implies_true, and_true, true_and], by simp only [B_V_fate, B_T_has, B_M_fate, c1, eq_self, one0, if_true, if_false, not_true_eq_false, not_false_eq_true, true_implies, false_implies, implies_true, and_true, true_and]⟩
  · by_cases c2 : nI n < x
    · exact ⟨by simp only [P_V_fate, P_T_has, B_T_has, a1, c1, c2, eq_self, one0, if_true, if_false, not_true_eq_false, not_false_eq_true, true_implies, false_implies, implies_true, and_true, true_and], by simp only [P_M_fate, a2, c1, c2, eq_self, one0, if_true, if_false, not_true_eq_false, not_false_eq_true, true_implies, false_implies, implies_true, and_true, true_and], by simp only [B_V_fate, B_T_has, B_M_fate, a1, a2, c1, c2, eq_self, one0, if_true, if_false, not_true_eq_false, not_false_eq_true, true_implies, false_implies, implies_true, and_true, true_and]⟩
    · have hn := iT.1
      rcases pk_ix x (n := n + 1) (by omega) with h | h | ⟨w, hw, rfl⟩
      · exact absurd (Int32.lt_trans h (by decide)) c1
      · exact absurd (Int32.lt_of_lt_of_le (nI_lt (by omega) (by omega)) h) c2
      · have hw1 : 1 ≤ w := by
          refine Nat.le_of_not_lt (fun r => c1 ?_)
          rw [li1]
          exact nI_lt (by omega) (by omega)
        have hx : ix (nI w) = w := nI_clamp (by omega)
        have hv : vp_in (nI w) 301 := vp_in_nI (by omega) (by decide)
        obtain ⟨⟨e1, e2, e3, e4, e5⟩, f1, f2, f3, f4⟩ := hT.2.2.2.2 w hw1 (by omega)
        exact ⟨by simp only [P_V_fate, P_T_has, B_T_has, a1, c1, c2, hv, eq_self, one0, if_true, if_false, not_true_eq_false, not_false_eq_true, true_implies, false_implies, implies_true, and_true, true_and], by simp only [P_M_fate, a2, c1, c2, hv, eq_self, one0, if_true, if_false, not_true_eq_false, not_false_eq_true, true_implies, false_implies, implies_true, and_true, true_and], by simp only [B_V_fate, B_T_has, B_M_fate, a1, a2, c1, c2, hx, e5, f4, eq_self, one0, if_true, if_false, not_true_eq_false, not_false_eq_true, true_implies, false_implies, implies_true, and_true, true_and]⟩
theorem Inv_down {t : Nat} {n : Nat} {own blk ep ft : Nat → Nat} {sc : HH} {lk gr : Int32} {mp un : Nat → Nat → Bool} {q : Nat → List MSG} {wt : Nat → List Nat} {wx : Nat → Bool} {pv : Nat → Nat} (iT : IT n own blk ep ft) (iG : ∃ g, gr = nI g ∧ 1 ≤ g ∧ g ≤ 1 + 301 * t) (hf : ∀ w, 1 ≤ w → w ≤ n → ft w ≠ 1) (hu0 : ∀ j, j < 32 → un 0 j = false) (hu1 : ∀ j, j < 32 → un 1 j = false) (q0 : q 0 = []) (q1 : q 1 = []) (w0 : wt 0 = []) (w1 : wt 1 = []) (hx : ∀ w, 1 ≤ w → w ≤ 300 → wx w = false) (s0 : sc 12 0 = 0) (s1 : sc 12 1 = 0) (iC : IC (sc 6 0) (sc 6 1) (sc 8 0) (sc 8 1) (sc 9 0) (sc 9 1) 0 0) (iE : IE n own ep pv) : Inv t n own blk ep ft sc lk gr mp un q wt wx pv := by
  have e0 : PL (q 1) (wt 1) (q 0) = [] := by rw [q0, q1, w1]; rfl
  have e1 : PL (q 0) (wt 0) (q 1) = [] := by rw [q0, q1, w0]; rfl
  refine ⟨iT, iG, ?_, ?_, ?_, ?_, ?_, ?_, ?_, ?_, ?_, iE⟩
  · rw [e0]
    exact IN.nil (fun w g1 g2 _ => hf w g1 g2) hu0
  · rw [e1]
    exact IN.nil (fun w g1 g2 _ => hf w g1 g2) hu1
  · rw [q0]
    exact ⟨fun a ha => (by cases ha), fun a ha => (by cases ha), by decide⟩
  · rw [q1]
    exact ⟨fun a ha => (by cases ha), fun a ha => (by cases ha), by decide⟩
  · rw [w1, q0]
    exact List.Pairwise.nil
  · rw [w0, q1]
    exact List.Pairwise.nil
  · intro w g1 g2
    rw [hx w g1 g2, w0, w1]
    exact ⟨fun r => (by cases r), fun r => r.2.elim (fun r => by cases r.2) (fun r => by cases r.2)⟩
  · rw [s0, s1]
    exact iC
  · intro _
    exact ⟨q0, q1, w0, w1, s0, s1⟩
theorem Inv_un {t : Nat} {n : Nat} {own blk ep ft : Nat → Nat} {sc : HH} {lk gr : Int32} {mp un : Nat → Nat → Bool} {q : Nat → List MSG} {wt : Nat → List Nat} {wx : Nat → Bool} {pv : Nat → Nat} (h : Inv t n own blk ep ft sc lk gr mp un q wt wx pv) (hl : lk = 0) : (∀ w, 1 ≤ w → w ≤ n → ft w ≠ 1) ∧ (∀ j, j < 32 → un 0 j = false) ∧ (∀ j, j < 32 → un 1 j = false) ∧ (q 0 = [] ∧ q 1 = [] ∧ wt 0 = [] ∧ wt 1 = [] ∧ sc 12 0 = 0 ∧ sc 12 1 = 0) ∧ ∀ w, 1 ≤ w → w ≤ 300 → wx w = false := by
  obtain ⟨iT, iG, iN0, iN1, iQ0, iQ1, iR0, iR1, iW, iC, iK, iE⟩ := h
  obtain ⟨q0, q1, w0, w1, s0, s1⟩ := iK hl
  have e0 : PL (q 1) (wt 1) (q 0) = [] := by rw [q0, q1, w1]; rfl
  have e1 : PL (q 0) (wt 0) (q 1) = [] := by rw [q0, q1, w0]; rfl
  rw [e0] at iN0
  rw [e1] at iN1
  obtain ⟨-, -, a3, -, -, -, a7, -⟩ := iN0
  obtain ⟨-, -, b3, -, -, -, b7, -⟩ := iN1
  refine ⟨fun w g1 g2 hf => ?_, fun j hj => ?_, fun j hj => ?_, ⟨q0, q1, w0, w1, s0, s1⟩, fun w g1 g2 => ?_⟩
  · have := (iT.2 w g1 g2).1
    rcases (show own w = 0 ∨ own w = 1 by omega) with ho | ho
    · cases (a3 w).mpr ⟨⟨g1, g2⟩, ho, hf⟩
    · cases (b3 w).mpr ⟨⟨g1, g2⟩, ho, hf⟩
  · cases hu : un 0 j with
    | false => rfl
    | true => cases (a7 j hj).mp hu
  · cases hu : un 1 j with
    | false => rfl
    | true => cases (b7 j hj).mp hu
  · cases hu : wx w with
    | false => rfl
    | true =>
      have := (iW w g1 g2).mp hu
      rw [w0, w1] at this
      exact this.2.elim (fun r => by cases r.2) (fun r => by cases r.2)
theorem S_brk (fz : Nat) (hz : 400 ≤ fz) {t : Nat} (ht : t ≤ 600) {n : Nat} {own blk ep ft : Nat → Nat} {sc : HH} {lk gr : Int32} {mp un : Nat → Nat → Bool} {q : Nat → List MSG} {wt : Nat → List Nat} {wx : Nat → Bool} {lg : Nat → List Nat} {us : Nat → Nat → Nat} {pv : Nat → Nat} {v m : HH} (hR : Rel n own blk ep ft sc lk gr mp un q wt wx lg us pv (v) (m)) (iT : IT n own blk ep ft) (iG : ∃ g, gr = nI g ∧ 1 ≤ g ∧ g ≤ 1 + 301 * t) (iC : IC (sc 6 0) (sc 6 1) (sc 8 0) (sc 8 1) (sc 9 0) (sc 9 1) 0 0) (hx : ∀ w, n < w → w ≤ 300 → wx w = false) (iE : IE n own ep pv) : P_V_breakLink fz v ∧ P_M_breakLink fz m ∧ J2 (t + 1) (B_V_breakLink fz v) (B_M_breakLink fz m) := by
  obtain ⟨p1, p2, ft', sc', gr', mp', wx', r, b1, b2, b3, b4, b5⟩ := r_break fz hz iT.1 (fun w g1 g2 => ⟨(iT.2 w g1 g2).1, (iT.2 w g1 g2).2.1⟩) (fun w g1 g2 => (iT.2 w g1 g2).2.2.2) hR
  obtain ⟨g, g1, g2, g3⟩ := iG
  have hn := iT.1
  obtain ⟨⟨g', k1, k2, k3⟩, k4⟩ := b5 g g1 g2 (by omega)
  obtain ⟨c1, c2, c3, c4, c5, c6, c7, c8⟩ := iC
  refine ⟨p1, p2, _, _, _, _, _, _, _, _, _, _, _, _, _, _, _, _, r, Inv_down ⟨iT.1, fun w h1 h2 => ?_⟩ ⟨g', k1, k2, by omega⟩ (fun w h1 h2 => ?_) (fun j hj => rfl) (fun j hj => rfl) rfl rfl rfl rfl (fun w h1 h2 => ?_) ?_ ?_ ?_ iE⟩
  · obtain ⟨o1, o2, o3, o4⟩ := iT.2 w h1 h2
    refine ⟨o1, o2, o3, ?_⟩
    rw [b1 w]
    split
    · decide
    · exact o4
  · rw [b1 w]
    split
    · decide
    · rename_i hh
      exact fun r => hh ⟨h1, h2, r⟩
  · rw [b2 w]
    split
    · rfl
    · exact hx w (by omega) h2
  · exact b3 12 0 (by decide) (by decide)
  · exact b3 12 1 (by decide) (by decide)
  · have e8 : ∀ b, sc' 8 b = sc 8 b := fun b => b3 8 b (by decide) (by decide)
    have e9 : ∀ b, sc' 9 b = sc 9 b := fun b => b3 9 b (by decide) (by decide)
    rw [e8, e8, e9, e9]
    exact ⟨fun r => c1 (k4 0 r), fun r => c2 (k4 1 r), c3, fun r => absurd rfl r, fun r => absurd rfl r, fun r => absurd rfl r.1, c7, c8⟩
theorem wx_hi {n : Nat} {own : Nat → Nat} {w0 w1 : List Nat} {wx : Nat → Bool} (iW : IW n own w0 w1 wx) : ∀ w, n < w → w ≤ 300 → wx w = false := by
  intro w h1 h2
  cases hu : wx w with
  | false => rfl
  | true =>
    have := (iW w (by omega) h2).mp hu
    omega
theorem IC.off {a60 a61 a80 a81 a90 a91 s0 s1 : Int32} (h : IC a60 a61 a80 a81 a90 a91 s0 s1) : IC a60 a61 a80 a81 a90 a91 0 0 := ⟨h.1, h.2.1, h.2.2.1, fun r => absurd rfl r, fun r => absurd rfl r, fun r => absurd rfl r.1, h.2.2.2.2.2.2⟩
theorem S_cut (fz : Nat) (hz : 400 ≤ fz) {t : Nat} (ht : t ≤ 600) {v m : HH} (hJ : J2 t v m) : P_V_cut fz v ∧ P_M_cut fz m ∧ RS t (B_V_cut fz v) (B_M_cut fz m) := by
  have hJ0 := hJ
  obtain ⟨n, own, blk, ep, ft, sc, lk, gr, mp, un, q, wt, wx, lg, us, pv, hR, hI⟩ := hJ
  have hR' := hR
  obtain ⟨hL, hT, hX, hS0, hM0, hD0, hR0, hA0, hW0, hG0, hU0, hE0, hS1, hM1, hD1, hR1, hA1, hW1, hG1, hU1, hE1⟩ := hR'
  have hI' := hI
  obtain ⟨iT, iG, iN0, iN1, iQ0, iQ1, iR0, iR1, iW, iC, iK, iE⟩ := hI'
  obtain ⟨s0a, s1a, s2a, s3a, s4a, s5a, s6a, s7a, s8a, s9a, s10a, s11a, s12a, s13a, s14a, s15a, s16a⟩ := hS0
  obtain ⟨s0b, s1b, s2b, s3b, s4b, s5b, s6b, s7b, s8b, s9b, s10b, s11b, s12b, s13b, s14b, s15b, s16b⟩ := hS1
  obtain ⟨l1, l2, l3, l4⟩ := hL
  by_cases cl : lk = 0
  · have eV : B_V_cut fz v = (0, v) := by simp only [B_V_cut, l1, cl, eq_self, one0, if_true, if_false, not_true_eq_false, not_false_eq_true, true_implies, false_implies, implies_true, and_true, true_and]
    have eM : B_M_cut fz m = (0, m) := by simp only [B_M_cut, l3, cl, eq_self, one0, if_true, if_false, not_true_eq_false, not_false_eq_true, true_implies, false_implies, implies_true, and_true, true_and]
    refine ⟨by simp only [P_V_cut, l1, cl, eq_self, one0, if_true, if_false, not_true_eq_false, not_false_eq_true, true_implies, false_implies, implies_true, and_true, true_and], by simp only [P_M_cut, l3, cl, eq_self, one0, if_true, if_false, not_true_eq_false, not_false_eq_true, true_implies, false_implies, implies_true, and_true, true_and], ?_⟩
    rw [eV, eM]
    exact RS.same hJ0 _
  · obtain ⟨p1, p2, hJ'⟩ := S_brk fz hz ht hR iT iG iC.off (wx_hi iW) iE
    have eV : B_V_cut fz v = (1, B_V_breakLink fz v) := by simp only [B_V_cut, l1, cl, eq_self, one0, if_true, if_false, not_true_eq_false, not_false_eq_true, true_implies, false_implies, implies_true, and_true, true_and]
    have eM : B_M_cut fz m = (1, B_M_breakLink fz m) := by simp only [B_M_cut, l3, cl, eq_self, one0, if_true, if_false, not_true_eq_false, not_false_eq_true, true_implies, false_implies, implies_true, and_true, true_and]
    refine ⟨by simp only [P_V_cut, l1, cl, p1, eq_self, one0, if_true, if_false, not_true_eq_false, not_false_eq_true, true_implies, false_implies, implies_true, and_true, true_and], by simp only [P_M_cut, l3, cl, p2, eq_self, one0, if_true, if_false, not_true_eq_false, not_false_eq_true, true_implies, false_implies, implies_true, and_true, true_and], ?_⟩
    rw [eV, eM]
    exact ⟨rfl, hJ'⟩
