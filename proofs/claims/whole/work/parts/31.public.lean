theorem crash_fin (fz : Nat) (hz : 400 ≤ fz) {t : Nat} (ht : t ≤ 600) {n : Nat} {own blk ep ft : Nat → Nat} {sc : HH} {lk gr : Int32} {mp un : Nat → Nat → Bool} {q : Nat → List MSG} {wt : Nat → List Nat} {wx : Nat → Bool} {lg : Nat → List Nat} {us : Nat → Nat → Nat} {pv : Nat → Nat} {v m : HH} (hR : Rel n own blk ep ft sc lk gr mp un q wt wx lg us pv (v) (m)) (iT : IT n own blk ep ft) (iG : ∃ g, gr = nI g ∧ 1 ≤ g ∧ g ≤ 1 + 301 * t) (iC : IC (sc 6 0) (sc 6 1) (sc 8 0) (sc 8 1) (sc 9 0) (sc 9 1) 0 0) (hx : ∀ w, n < w → w ≤ 300 → wx w = false) (iE : IE n own ep pv) (hun : lk = 0 → (∀ w, 1 ≤ w → w ≤ n → ft w ≠ 1) ∧ (∀ j, j < 32 → un 0 j = false) ∧ (∀ j, j < 32 → un 1 j = false) ∧ (q 0 = [] ∧ q 1 = [] ∧ wt 0 = [] ∧ wt 1 = [] ∧ sc 12 0 = 0 ∧ sc 12 1 = 0) ∧ ∀ w, 1 ≤ w → w ≤ 300 → wx w = false) : P_V_crash_68 fz v ∧ P_M_crash_75 fz m ∧ RS t (B_V_crash_68 fz v) (B_M_crash_75 fz m) := by
  have hR' := hR
  obtain ⟨hL, hT, hX, hS0, hM0, hD0, hR0, hA0, hW0, hG0, hU0, hE0, hS1, hM1, hD1, hR1, hA1, hW1, hG1, hU1, hE1⟩ := hR'
  obtain ⟨l1, l2, l3, l4⟩ := hL
  by_cases cl : lk = 0
  · obtain ⟨u1, u2', u3, ⟨u4, u5, u6, u7, u8, u9⟩, u10⟩ := hun cl
    have eV : B_V_crash_68 fz v = (1, v) := by simp only [B_V_crash_68, l1, cl, eq_self, one0, if_true, if_false, not_true_eq_false, not_false_eq_true, true_implies, false_implies, implies_true, and_true, true_and]
    have eM : B_M_crash_75 fz m = (1, m) := by simp only [B_M_crash_75, l3, cl, eq_self, one0, if_true, if_false, not_true_eq_false, not_false_eq_true, true_implies, false_implies, implies_true, and_true, true_and]
    refine ⟨by simp only [P_V_crash_68, l1, cl, eq_self, one0, if_true, if_false, not_true_eq_false, not_false_eq_true, true_implies, false_implies, implies_true, and_true, true_and], by simp only [P_M_crash_75, l3, cl, eq_self, one0, if_true, if_false, not_true_eq_false, not_false_eq_true, true_implies, false_implies, implies_true, and_true, true_and], ?_⟩
    rw [eV, eM]
    obtain ⟨g, g1, g2, g3⟩ := iG
    exact ⟨rfl, n, own, blk, ep, ft, sc, lk, gr, mp, un, q, wt, wx, lg, us, pv, hR, Inv_down iT ⟨g, g1, g2, by omega⟩ u1 u2' u3 u4 u5 u6 u7 u10 u8 u9 iC iE⟩
  · obtain ⟨p1, p2, hJ'⟩ := S_brk fz hz ht hR iT iG iC hx iE
    have eV : B_V_crash_68 fz v = (1, B_V_breakLink fz v) := by simp only [B_V_crash_68, l1, cl, eq_self, one0, if_true, if_false, not_true_eq_false, not_false_eq_true, true_implies, false_implies, implies_true, and_true, true_and]
    have eM : B_M_crash_75 fz m = (1, B_M_breakLink fz m) := by simp only [B_M_crash_75, l3, cl, eq_self, one0, if_true, if_false, not_true_eq_false, not_false_eq_true, true_implies, false_implies, implies_true, and_true, true_and]
    refine ⟨by simp only [P_V_crash_68, l1, cl, p1, eq_self, one0, if_true, if_false, not_true_eq_false, not_false_eq_true, true_implies, false_implies, implies_true, and_true, true_and], by simp only [P_M_crash_75, l3, cl, p2, eq_self, one0, if_true, if_false, not_true_eq_false, not_false_eq_true, true_implies, false_implies, implies_true, and_true, true_and], ?_⟩
    rw [eV, eM]
    exact ⟨rfl, hJ'⟩
theorem cft_lt {own ft : Nat → Nat} {b a y n w : Nat} (h : ft w < 5) (hy : y < 5) : cft own ft b a y n w < 5 := by
  unfold cft
  split
  · exact hy
  · exact h
theorem cft_1 {own ft : Nat → Nat} {b a y n w : Nat} (ha : a ≠ 1) (hy : y ≠ 1) : cft own ft b a y n w = 1 ↔ ft w = 1 := by
  unfold cft
  split
  · rename_i h
    constructor
    · intro r
      exact absurd r hy
    · intro r
      rw [r] at h
      exact absurd h.2.2.symm ha
  · exact Iff.rfl
theorem cft_n1 {own ft : Nat → Nat} {b a y n w : Nat} (hy : y ≠ 1) (h : ft w ≠ 1) : cft own ft b a y n w ≠ 1 := by
  unfold cft
  split
  · exact hy
  · exact h
theorem S_crash (fz : Nat) (hz : 400 ≤ fz) {t : Nat} (ht : t ≤ 600) {v m : HH} (hJ : J2 t v m) (x : Int32) : P_V_crash fz x v ∧ P_M_crash fz x m ∧ RS t (B_V_crash fz x v) (B_M_crash fz x m) := by
  rcases ndc x with ⟨h0, h1⟩ | rfl | rfl
  · have eV : B_V_crash fz x v = (0, v) := by simp only [B_V_crash, vN_n fz v h0 h1, eq_self, one0, if_true, if_false, not_true_eq_false, not_false_eq_true, true_implies, false_implies, implies_true, and_true, true_and]
    have eM : B_M_crash fz x m = (0, m) := by simp only [B_M_crash, mN_n fz m h0 h1, eq_self, one0, if_true, if_false, not_true_eq_false, not_false_eq_true, true_implies, false_implies, implies_true, and_true, true_and]
    refine ⟨by simp only [P_V_crash, pT_isNode, vN_n fz v h0 h1, eq_self, one0, if_true, if_false, not_true_eq_false, not_false_eq_true, true_implies, false_implies, implies_true, and_true, true_and], by simp only [P_M_crash, pT_isNodeM, mN_n fz m h0 h1, eq_self, one0, if_true, if_false, not_true_eq_false, not_false_eq_true, true_implies, false_implies, implies_true, and_true, true_and], ?_⟩
    rw [eV, eM]
    exact RS.same hJ _
  · have hJ0 := hJ
    obtain ⟨n, own, blk, ep, ft, sc, lk, gr, mp, un, q, wt, wx, lg, us, pv, hR, hI⟩ := hJ
    have hR' := hR
    obtain ⟨hL, hT, hX, hS0, hM0, hD0, hR0, hA0, hW0, hG0, hU0, hE0, hS1, hM1, hD1, hR1, hA1, hW1, hG1, hU1, hE1⟩ := hR'
    have hI' := hI
    obtain ⟨iT, iG, iN0, iN1, iQ0, iQ1, iR0, iR1, iW, iC, iK, iE⟩ := hI'
    obtain ⟨s0a, s1a, s2a, s3a, s4a, s5a, s6a, s7a, s8a, s9a, s10a, s11a, s12a, s13a, s14a, s15a, s16a⟩ := hS0
    obtain ⟨s0b, s1b, s2b, s3b, s4b, s5b, s6b, s7b, s8b, s9b, s10b, s11b, s12b, s13b, s14b, s15b, s16b⟩ := hS1
    obtain ⟨l1, l2, l3, l4⟩ := hL
    by_cases c10 : sc 10 0 = 0
    · have eV : B_V_crash fz (nI 0) v = (0, v) := by simp only [B_V_crash, vN_0, mN_0, nO_0, pO_0, ixb_0, vpb_0, om_0, ixb_1, vpb_1, s5a, s13a, c10, eq_self, one0, if_true, if_false, not_true_eq_false, not_false_eq_true, true_implies, false_implies, implies_true, and_true, true_and]
      have eM : B_M_crash fz (nI 0) m = (0, m) := by simp only [B_M_crash, vN_0, mN_0, nO_0, pO_0, ixb_0, vpb_0, om_0, ixb_1, vpb_1, s5a, s13a, c10, eq_self, one0, if_true, if_false, not_true_eq_false, not_false_eq_true, true_implies, false_implies, implies_true, and_true, true_and]
      refine ⟨by simp only [P_V_crash, pT_isNode, pT_nodeOf, pT_peerOf, vN_0, mN_0, nO_0, pO_0, ixb_0, vpb_0, om_0, ixb_1, vpb_1, s5a, s13a, c10, eq_self, one0, if_true, if_false, not_true_eq_false, not_false_eq_true, true_implies, false_implies, implies_true, and_true, true_and], by simp only [P_M_crash, pT_isNodeM, vN_0, mN_0, nO_0, pO_0, ixb_0, vpb_0, om_0, ixb_1, vpb_1, s5a, s13a, c10, eq_self, one0, if_true, if_false, not_true_eq_false, not_false_eq_true, true_implies, false_implies, implies_true, and_true, true_and], ?_⟩
      rw [eV, eM]
      exact RS.same hJ0 _
    · have r1 := r_set_10_0 hR 0
      obtain ⟨p1, p2, r2⟩ := r_chft fz hz iT.1 (fun w g1 g2 => ⟨(iT.2 w g1 g2).1, (iT.2 w g1 g2).2.2.2⟩) r1 (b := 0) (a := 1) (y := 4) (by decide) (by decide) (xb := nI 0) rfl (xb2 := nI 0) rfl li1 li4
      obtain ⟨p3, p4, r3⟩ := r_chft fz hz iT.1 (fun w g1 g2 => ⟨(iT.2 w g1 g2).1, cft_lt (iT.2 w g1 g2).2.2.2 (by decide)⟩) r2 (b := 0) (a := 3) (y := 4) (by decide) (by decide) (xb := nI 0) rfl (xb2 := nI 0) rfl li3 li4
      have iT' : IT n own blk ep (cft own (cft own ft 0 1 4 n) 0 3 4 n) := ⟨iT.1, fun w g1 g2 => ⟨(iT.2 w g1 g2).1, (iT.2 w g1 g2).2.1, (iT.2 w g1 g2).2.2.1, cft_lt (cft_lt (iT.2 w g1 g2).2.2.2 (by decide)) (by decide)⟩⟩
      have iC0 := iC.off
      obtain ⟨c1, c2, c3, c4, c5, c6, c7, c8⟩ := iC0
      have q11 : (B_T_changeFates fz (nI 0) 3 4 (B_T_changeFates fz (nI 0) 1 4 (u2 v 1 10 0))) 1 11 = sc 11 0 ∧ (B_M_turnInto fz (nI 0) 3 4 (B_M_turnInto fz (nI 0) 1 4 (u2 m 42 0 0))) 41 0 = sc 9 0 ∧ (B_M_turnInto fz (nI 0) 3 4 (B_M_turnInto fz (nI 0) 1 4 (u2 m 42 0 0))) 43 0 = sc 11 0 := by
        obtain ⟨kL, kT, kX, kS0, kM0, kD0, kR0, kA0, kW0, kG0, kU0, kE0, kS1, kM1, kD1, kR1, kA1, kW1, kG1, kU1, kE1⟩ := r3
        obtain ⟨z0, z1, z2, z3, z4, z5, z6, z7, z8, z9, z10, z11, z12, z13, z14, z15, z16⟩ := kS0
        exact ⟨z6, z12, z14⟩
      obtain ⟨q1, q2, q3⟩ := q11
      by_cases c11 : sc 11 0 = 0
      · obtain ⟨w1, w2, w3⟩ := crash_fin fz hz ht r3 iT' iG ⟨c1, c2, c3, c4, c5, c6, c7, c8⟩ (wx_hi iW) iE (fun cl => ⟨fun w g1 g2 => cft_n1 (by decide) (cft_n1 (by decide) ((Inv_un hI cl).1 w g1 g2)), (Inv_un hI cl).2.1, (Inv_un hI cl).2.2.1, (Inv_un hI cl).2.2.2.1, (Inv_un hI cl).2.2.2.2⟩)
        have em : B_M_crash_39 fz (nI 0) (B_M_turnInto fz (nI 0) 3 4 (B_M_turnInto fz (nI 0) 1 4 (u2 m 42 0 0))) = B_M_crash_75 fz (B_M_turnInto fz (nI 0) 3 4 (B_M_turnInto fz (nI 0) 1 4 (u2 m 42 0 0))) := by
          by_cases c9 : sc 9 0 = 0
          · have e1 : u2 (B_M_turnInto fz (nI 0) 3 4 (B_M_turnInto fz (nI 0) 1 4 (u2 m 42 0 0))) 41 0 0 = B_M_turnInto fz (nI 0) 3 4 (B_M_turnInto fz (nI 0) 1 4 (u2 m 42 0 0)) := u2_id (q2.trans c9).symm
            have e2 : u2 (B_M_turnInto fz (nI 0) 3 4 (B_M_turnInto fz (nI 0) 1 4 (u2 m 42 0 0))) 43 0 0 = B_M_turnInto fz (nI 0) 3 4 (B_M_turnInto fz (nI 0) 1 4 (u2 m 42 0 0)) := u2_id (q3.trans c11).symm
            simp only [B_M_crash_39, ixb_0, q2, q3, c9, c11, e1, e2, eq_self, one0, if_true, if_false, not_true_eq_false, not_false_eq_true, true_implies, false_implies, implies_true, and_true, true_and]
          · have h9 : sc 9 0 = 1 := (c7).resolve_left c9
            have e1 : u2 (B_M_turnInto fz (nI 0) 3 4 (B_M_turnInto fz (nI 0) 1 4 (u2 m 42 0 0))) 41 0 1 = B_M_turnInto fz (nI 0) 3 4 (B_M_turnInto fz (nI 0) 1 4 (u2 m 42 0 0)) := u2_id (q2.trans h9).symm
            have e2 : u2 (B_M_turnInto fz (nI 0) 3 4 (B_M_turnInto fz (nI 0) 1 4 (u2 m 42 0 0))) 43 0 0 = B_M_turnInto fz (nI 0) 3 4 (B_M_turnInto fz (nI 0) 1 4 (u2 m 42 0 0)) := u2_id (q3.trans c11).symm
            simp only [B_M_crash_39, B_M_crash_62, ixb_0, q2, h9, e1, e2, eq_self, one0, if_true, if_false, not_true_eq_false, not_false_eq_true, true_implies, false_implies, implies_true, and_true, true_and]
        have pm : P_M_crash_39 fz (nI 0) (B_M_turnInto fz (nI 0) 3 4 (B_M_turnInto fz (nI 0) 1 4 (u2 m 42 0 0))) := by
          by_cases c9 : sc 9 0 = 0
          · have e1 : u2 (B_M_turnInto fz (nI 0) 3 4 (B_M_turnInto fz (nI 0) 1 4 (u2 m 42 0 0))) 41 0 0 = B_M_turnInto fz (nI 0) 3 4 (B_M_turnInto fz (nI 0) 1 4 (u2 m 42 0 0)) := u2_id (q2.trans c9).symm
            have e2 : u2 (B_M_turnInto fz (nI 0) 3 4 (B_M_turnInto fz (nI 0) 1 4 (u2 m 42 0 0))) 43 0 0 = B_M_turnInto fz (nI 0) 3 4 (B_M_turnInto fz (nI 0) 1 4 (u2 m 42 0 0)) := u2_id (q3.trans c11).symm
            simp only [P_M_crash_39, ixb_0, vpb_0, q2, q3, c9, c11, e1, e2, w2, eq_self, one0, if_true, if_false, not_true_eq_false, not_false_eq_true, true_implies, false_implies, implies_true, and_true, true_and]
          · have h9 : sc 9 0 = 1 := (c7).resolve_left c9
            have e1 : u2 (B_M_turnInto fz (nI 0) 3 4 (B_M_turnInto fz (nI 0) 1 4 (u2 m 42 0 0))) 41 0 1 = B_M_turnInto fz (nI 0) 3 4 (B_M_turnInto fz (nI 0) 1 4 (u2 m 42 0 0)) := u2_id (q2.trans h9).symm
            have e2 : u2 (B_M_turnInto fz (nI 0) 3 4 (B_M_turnInto fz (nI 0) 1 4 (u2 m 42 0 0))) 43 0 0 = B_M_turnInto fz (nI 0) 3 4 (B_M_turnInto fz (nI 0) 1 4 (u2 m 42 0 0)) := u2_id (q3.trans c11).symm
            simp only [P_M_crash_39, P_M_crash_62, ixb_0, vpb_0, q2, h9, e1, e2, w2, eq_self, one0, if_true, if_false, not_true_eq_false, not_false_eq_true, true_implies, false_implies, implies_true, and_true, true_and]
        have eV : B_V_crash fz (nI 0) v = B_V_crash_68 fz (B_T_changeFates fz (nI 0) 3 4 (B_T_changeFates fz (nI 0) 1 4 (u2 v 1 10 0))) := by simp only [B_V_crash, B_V_crash_31, B_V_crash_41, B_V_crash_51, vN_0, mN_0, nO_0, pO_0, ixb_0, vpb_0, om_0, ixb_1, vpb_1, s5a, s13a, c10, q1, c11, eq_self, one0, if_true, if_false, not_true_eq_false, not_false_eq_true, true_implies, false_implies, implies_true, and_true, true_and]
        have eM : B_M_crash fz (nI 0) m = B_M_crash_75 fz (B_M_turnInto fz (nI 0) 3 4 (B_M_turnInto fz (nI 0) 1 4 (u2 m 42 0 0))) := by simp only [B_M_crash, B_M_crash_25, B_M_crash_32, vN_0, mN_0, nO_0, pO_0, ixb_0, vpb_0, om_0, ixb_1, vpb_1, s5a, s13a, c10, em, eq_self, one0, if_true, if_false, not_true_eq_false, not_false_eq_true, true_implies, false_implies, implies_true, and_true, true_and]
        refine ⟨by simp only [P_V_crash, P_V_crash_31, P_V_crash_41, P_V_crash_51, pT_isNode, pT_nodeOf, vN_0, mN_0, nO_0, pO_0, ixb_0, vpb_0, om_0, ixb_1, vpb_1, s5a, s13a, c10, q1, c11, p1, p3, w1, eq_self, one0, if_true, if_false, not_true_eq_false, not_false_eq_true, true_implies, false_implies, implies_true, and_true, true_and], by simp only [P_M_crash, P_M_crash_25, P_M_crash_32, pT_isNodeM, vN_0, mN_0, nO_0, pO_0, ixb_0, vpb_0, om_0, ixb_1, vpb_1, s5a, s13a, c10, p2, p4, pm, eq_self, one0, if_true, if_false, not_true_eq_false, not_false_eq_true, true_implies, false_implies, implies_true, and_true, true_and], ?_⟩
        rw [eV, eM]
        exact w3
      · obtain ⟨w1, w2, w3⟩ := crash_fin fz hz ht (r_set_11_0 (r_set_9_0 r3 1) 0) iT' iG ⟨c1, c2, c3, c4, c5, c6, Or.inr rfl, c8⟩ (wx_hi iW) iE (fun cl => ⟨fun w g1 g2 => cft_n1 (by decide) (cft_n1 (by decide) ((Inv_un hI cl).1 w g1 g2)), (Inv_un hI cl).2.1, (Inv_un hI cl).2.2.1, (Inv_un hI cl).2.2.2.1, (Inv_un hI cl).2.2.2.2⟩)
        have eV : B_V_crash fz (nI 0) v = B_V_crash_68 fz (u2 (u2 (B_T_changeFates fz (nI 0) 3 4 (B_T_changeFates fz (nI 0) 1 4 (u2 v 1 10 0))) 1 9 1) 1 11 0) := by simp only [B_V_crash, B_V_crash_31, B_V_crash_41, B_V_crash_51, vN_0, mN_0, nO_0, pO_0, ixb_0, vpb_0, om_0, ixb_1, vpb_1, s5a, s13a, c10, q1, c11, eq_self, one0, if_true, if_false, not_true_eq_false, not_false_eq_true, true_implies, false_implies, implies_true, and_true, true_and]
        have em : B_M_crash_39 fz (nI 0) (B_M_turnInto fz (nI 0) 3 4 (B_M_turnInto fz (nI 0) 1 4 (u2 m 42 0 0))) = B_M_crash_75 fz (u2 (u2 (B_M_turnInto fz (nI 0) 3 4 (B_M_turnInto fz (nI 0) 1 4 (u2 m 42 0 0))) 41 0 1) 43 0 0) := by
          by_cases c9 : sc 9 0 = 0
          · simp only [B_M_crash_39, B_M_crash_62, ixb_0, q2, q3, c9, c11, eq_self, one0, if_true, if_false, not_true_eq_false, not_false_eq_true, true_implies, false_implies, implies_true, and_true, true_and]
          · simp only [B_M_crash_39, B_M_crash_62, ixb_0, q2, c9, eq_self, one0, if_true, if_false, not_true_eq_false, not_false_eq_true, true_implies, false_implies, implies_true, and_true, true_and]
        have pm : P_M_crash_39 fz (nI 0) (B_M_turnInto fz (nI 0) 3 4 (B_M_turnInto fz (nI 0) 1 4 (u2 m 42 0 0))) := by
          by_cases c9 : sc 9 0 = 0
          · simp only [P_M_crash_39, P_M_crash_62, ixb_0, vpb_0, q2, q3, c9, c11, w2, eq_self, one0, if_true, if_false, not_true_eq_false, not_false_eq_true, true_implies, false_implies, implies_true, and_true, true_and]
          · simp only [P_M_crash_39, P_M_crash_62, ixb_0, vpb_0, q2, c9, w2, eq_self, one0, if_true, if_false, not_true_eq_false, not_false_eq_true, true_implies, false_implies, implies_true, and_true, true_and]
        have eM : B_M_crash fz (nI 0) m = B_M_crash_75 fz (u2 (u2 (B_M_turnInto fz (nI 0) 3 4 (B_M_turnInto fz (nI 0) 1 4 (u2 m 42 0 0))) 41 0 1) 43 0 0) := by simp only [B_M_crash, B_M_crash_25, B_M_crash_32, vN_0, mN_0, nO_0, pO_0, ixb_0, vpb_0, om_0, ixb_1, vpb_1, s5a, s13a, c10, em, eq_self, one0, if_true, if_false, not_true_eq_false, not_false_eq_true, true_implies, false_implies, implies_true, and_true, true_and]
        refine ⟨by simp only [P_V_crash, P_V_crash_31, P_V_crash_41, P_V_crash_51, pT_isNode, pT_nodeOf, vN_0, mN_0, nO_0, pO_0, ixb_0, vpb_0, om_0, ixb_1, vpb_1, s5a, s13a, c10, q1, c11, p1, p3, w1, eq_self, one0, if_true, if_false, not_true_eq_false, not_false_eq_true, true_implies, false_implies, implies_true, and_true, true_and], by simp only [P_M_crash, P_M_crash_25, P_M_crash_32, pT_isNodeM, vN_0, mN_0, nO_0, pO_0, ixb_0, vpb_0, om_0, ixb_1, vpb_1, s5a, s13a, c10, p2, p4, pm, eq_self, one0, if_true, if_false, not_true_eq_false, not_false_eq_true, true_implies, false_implies, implies_true, and_true, true_and], ?_⟩
        rw [eV, eM]
        exact w3
  · have hJ0 := hJ
    obtain ⟨n, own, blk, ep, ft, sc, lk, gr, mp, un, q, wt, wx, lg, us, pv, hR, hI⟩ := hJ
    have hR' := hR
    obtain ⟨hL, hT, hX, hS0, hM0, hD0, hR0, hA0, hW0, hG0, hU0, hE0, hS1, hM1, hD1, hR1, hA1, hW1, hG1, hU1, hE1⟩ := hR'
    have hI' := hI
    obtain ⟨iT, iG, iN0, iN1, iQ0, iQ1, iR0, iR1, iW, iC, iK, iE⟩ := hI'
    obtain ⟨s0a, s1a, s2a, s3a, s4a, s5a, s6a, s7a, s8a, s9a, s10a, s11a, s12a, s13a, s14a, s15a, s16a⟩ := hS0
    obtain ⟨s0b, s1b, s2b, s3b, s4b, s5b, s6b, s7b, s8b, s9b, s10b, s11b, s12b, s13b, s14b, s15b, s16b⟩ := hS1
    obtain ⟨l1, l2, l3, l4⟩ := hL
    by_cases c10 : sc 10 1 = 0
    · have eV : B_V_crash fz (nI 1) v = (0, v) := by simp only [B_V_crash, vN_1, mN_1, nO_1, pO_1, ixb_1, vpb_1, om_1, ixb_0, vpb_0, s5b, s13b, c10, eq_self, one0, if_true, if_false, not_true_eq_false, not_false_eq_true, true_implies, false_implies, implies_true, and_true, true_and]
      have eM : B_M_crash fz (nI 1) m = (0, m) := by simp only [B_M_crash, vN_1, mN_1, nO_1, pO_1, ixb_1, vpb_1, om_1, ixb_0, vpb_0, s5b, s13b, c10, eq_self, one0, if_true, if_false, not_true_eq_false, not_false_eq_true, true_implies, false_implies, implies_true, and_true, true_and]
      refine ⟨by simp only [P_V_crash, pT_isNode, pT_nodeOf, pT_peerOf, vN_1, mN_1, nO_1, pO_1, ixb_1, vpb_1, om_1, ixb_0, vpb_0, s5b, s13b, c10, eq_self, one0, if_true, if_false, not_true_eq_false, not_false_eq_true, true_implies, false_implies, implies_true, and_true, true_and], by simp only [P_M_crash, pT_isNodeM, vN_1, mN_1, nO_1, pO_1, ixb_1, vpb_1, om_1, ixb_0, vpb_0, s5b, s13b, c10, eq_self, one0, if_true, if_false, not_true_eq_false, not_false_eq_true, true_implies, false_implies, implies_true, and_true, true_and], ?_⟩
      rw [eV, eM]
      exact RS.same hJ0 _
    · have r1 := r_set_10_1 hR 0
      obtain ⟨p1, p2, r2⟩ := r_chft fz hz iT.1 (fun w g1 g2 => ⟨(iT.2 w g1 g2).1, (iT.2 w g1 g2).2.2.2⟩) r1 (b := 1) (a := 1) (y := 4) (by decide) (by decide) (xb := nI 1) rfl (xb2 := nI 1) rfl li1 li4
      obtain ⟨p3, p4, r3⟩ := r_chft fz hz iT.1 (fun w g1 g2 => ⟨(iT.2 w g1 g2).1, cft_lt (iT.2 w g1 g2).2.2.2 (by decide)⟩) r2 (b := 1) (a := 3) (y := 4) (by decide) (by decide) (xb := nI 1) rfl (xb2 := nI 1) rfl li3 li4
      have iT' : IT n own blk ep (cft own (cft own ft 1 1 4 n) 1 3 4 n) := ⟨iT.1, fun w g1 g2 => ⟨(iT.2 w g1 g2).1, (iT.2 w g1 g2).2.1, (iT.2 w g1 g2).2.2.1, cft_lt (cft_lt (iT.2 w g1 g2).2.2.2 (by decide)) (by decide)⟩⟩
      have iC0 := iC.off
      obtain ⟨c1, c2, c3, c4, c5, c6, c7, c8⟩ := iC0
      have q11 : (B_T_changeFates fz (nI 1) 3 4 (B_T_changeFates fz (nI 1) 1 4 (u2 v 11 10 0))) 11 11 = sc 11 1 ∧ (B_M_turnInto fz (nI 1) 3 4 (B_M_turnInto fz (nI 1) 1 4 (u2 m 42 1 0))) 41 1 = sc 9 1 ∧ (B_M_turnInto fz (nI 1) 3 4 (B_M_turnInto fz (nI 1) 1 4 (u2 m 42 1 0))) 43 1 = sc 11 1 := by
        obtain ⟨kL, kT, kX, kS0, kM0, kD0, kR0, kA0, kW0, kG0, kU0, kE0, kS1, kM1, kD1, kR1, kA1, kW1, kG1, kU1, kE1⟩ := r3
        obtain ⟨z0, z1, z2, z3, z4, z5, z6, z7, z8, z9, z10, z11, z12, z13, z14, z15, z16⟩ := kS1
        exact ⟨z6, z12, z14⟩
      obtain ⟨q1, q2, q3⟩ := q11
      by_cases c11 : sc 11 1 = 0
      · obtain ⟨w1, w2, w3⟩ := crash_fin fz hz ht r3 iT' iG ⟨c1, c2, c3, c4, c5, c6, c7, c8⟩ (wx_hi iW) iE (fun cl => ⟨fun w g1 g2 => cft_n1 (by decide) (cft_n1 (by decide) ((Inv_un hI cl).1 w g1 g2)), (Inv_un hI cl).2.1, (Inv_un hI cl).2.2.1, (Inv_un hI cl).2.2.2.1, (Inv_un hI cl).2.2.2.2⟩)
        have em : B_M_crash_39 fz (nI 1) (B_M_turnInto fz (nI 1) 3 4 (B_M_turnInto fz (nI 1) 1 4 (u2 m 42 1 0))) = B_M_crash_75 fz (B_M_turnInto fz (nI 1) 3 4 (B_M_turnInto fz (nI 1) 1 4 (u2 m 42 1 0))) := by
          by_cases c9 : sc 9 1 = 0
          · have e1 : u2 (B_M_turnInto fz (nI 1) 3 4 (B_M_turnInto fz (nI 1) 1 4 (u2 m 42 1 0))) 41 1 0 = B_M_turnInto fz (nI 1) 3 4 (B_M_turnInto fz (nI 1) 1 4 (u2 m 42 1 0)) := u2_id (q2.trans c9).symm
            have e2 : u2 (B_M_turnInto fz (nI 1) 3 4 (B_M_turnInto fz (nI 1) 1 4 (u2 m 42 1 0))) 43 1 0 = B_M_turnInto fz (nI 1) 3 4 (B_M_turnInto fz (nI 1) 1 4 (u2 m 42 1 0)) := u2_id (q3.trans c11).symm
            simp only [B_M_crash_39, ixb_1, q2, q3, c9, c11, e1, e2, eq_self, one0, if_true, if_false, not_true_eq_false, not_false_eq_true, true_implies, false_implies, implies_true, and_true, true_and]
          · have h9 : sc 9 1 = 1 := (c8).resolve_left c9
            have e1 : u2 (B_M_turnInto fz (nI 1) 3 4 (B_M_turnInto fz (nI 1) 1 4 (u2 m 42 1 0))) 41 1 1 = B_M_turnInto fz (nI 1) 3 4 (B_M_turnInto fz (nI 1) 1 4 (u2 m 42 1 0)) := u2_id (q2.trans h9).symm
            have e2 : u2 (B_M_turnInto fz (nI 1) 3 4 (B_M_turnInto fz (nI 1) 1 4 (u2 m 42 1 0))) 43 1 0 = B_M_turnInto fz (nI 1) 3 4 (B_M_turnInto fz (nI 1) 1 4 (u2 m 42 1 0)) := u2_id (q3.trans c11).symm
            simp only [B_M_crash_39, B_M_crash_62, ixb_1, q2, h9, e1, e2, eq_self, one0, if_true, if_false, not_true_eq_false, not_false_eq_true, true_implies, false_implies, implies_true, and_true, true_and]
        have pm : P_M_crash_39 fz (nI 1) (B_M_turnInto fz (nI 1) 3 4 (B_M_turnInto fz (nI 1) 1 4 (u2 m 42 1 0))) := by
          by_cases c9 : sc 9 1 = 0
          · have e1 : u2 (B_M_turnInto fz (nI 1) 3 4 (B_M_turnInto fz (nI 1) 1 4 (u2 m 42 1 0))) 41 1 0 = B_M_turnInto fz (nI 1) 3 4 (B_M_turnInto fz (nI 1) 1 4 (u2 m 42 1 0)) := u2_id (q2.trans c9).symm
            have e2 : u2 (B_M_turnInto fz (nI 1) 3 4 (B_M_turnInto fz (nI 1) 1 4 (u2 m 42 1 0))) 43 1 0 = B_M_turnInto fz (nI 1) 3 4 (B_M_turnInto fz (nI 1) 1 4 (u2 m 42 1 0)) := u2_id (q3.trans c11).symm
            simp only [P_M_crash_39, ixb_1, vpb_1, q2, q3, c9, c11, e1, e2, w2, eq_self, one0, if_true, if_false, not_true_eq_false, not_false_eq_true, true_implies, false_implies, implies_true, and_true, true_and]
          · have h9 : sc 9 1 = 1 := (c8).resolve_left c9
            have e1 : u2 (B_M_turnInto fz (nI 1) 3 4 (B_M_turnInto fz (nI 1) 1 4 (u2 m 42 1 0))) 41 1 1 = B_M_turnInto fz (nI 1) 3 4 (B_M_turnInto fz (nI 1) 1 4 (u2 m 42 1 0)) := u2_id (q2.trans h9).symm
            have e2 : u2 (B_M_turnInto fz (nI 1) 3 4 (B_M_turnInto fz (nI 1) 1 4 (u2 m 42 1 0))) 43 1 0 = B_M_turnInto fz (nI 1) 3 4 (B_M_turnInto fz (nI 1) 1 4 (u2 m 42 1 0)) := u2_id (q3.trans c11).symm
            simp only [P_M_crash_39, P_M_crash_62, ixb_1, vpb_1, q2, h9, e1, e2, w2, eq_self, one0, if_true, if_false, not_true_eq_false, not_false_eq_true, true_implies, false_implies, implies_true, and_true, true_and]
        have eV : B_V_crash fz (nI 1) v = B_V_crash_68 fz (B_T_changeFates fz (nI 1) 3 4 (B_T_changeFates fz (nI 1) 1 4 (u2 v 11 10 0))) := by simp only [B_V_crash, B_V_crash_31, B_V_crash_41, B_V_crash_51, vN_1, mN_1, nO_1, pO_1, ixb_1, vpb_1, om_1, ixb_0, vpb_0, s5b, s13b, c10, q1, c11, eq_self, one0, if_true, if_false, not_true_eq_false, not_false_eq_true, true_implies, false_implies, implies_true, and_true, true_and]
        have eM : B_M_crash fz (nI 1) m = B_M_crash_75 fz (B_M_turnInto fz (nI 1) 3 4 (B_M_turnInto fz (nI 1) 1 4 (u2 m 42 1 0))) := by simp only [B_M_crash, B_M_crash_25, B_M_crash_32, vN_1, mN_1, nO_1, pO_1, ixb_1, vpb_1, om_1, ixb_0, vpb_0, s5b, s13b, c10, em, eq_self, one0, if_true, if_false, not_true_eq_false, not_false_eq_true, true_implies, false_implies, implies_true, and_true, true_and]
        refine ⟨by simp only [P_V_crash, P_V_crash_31, P_V_crash_41, P_V_crash_51, pT_isNode, pT_nodeOf, vN_1, mN_1, nO_1, pO_1, ixb_1, vpb_1, om_1, ixb_0, vpb_0, s5b, s13b, c10, q1, c11, p1, p3, w1, eq_self, one0, if_true, if_false, not_true_eq_false, not_false_eq_true, true_implies, false_implies, implies_true, and_true, true_and], by simp only [P_M_crash, P_M_crash_25, P_M_crash_32, pT_isNodeM, vN_1, mN_1, nO_1, pO_1, ixb_1, vpb_1, om_1, ixb_0, vpb_0, s5b, s13b, c10, p2, p4, pm, eq_self, one0, if_true, if_false, not_true_eq_false, not_false_eq_true, true_implies, false_implies, implies_true, and_true, true_and], ?_⟩
        rw [eV, eM]
        exact w3
      · obtain ⟨w1, w2, w3⟩ := crash_fin fz hz ht (r_set_11_1 (r_set_9_1 r3 1) 0) iT' iG ⟨c1, c2, c3, c4, c5, c6, c7, Or.inr rfl⟩ (wx_hi iW) iE (fun cl => ⟨fun w g1 g2 => cft_n1 (by decide) (cft_n1 (by decide) ((Inv_un hI cl).1 w g1 g2)), (Inv_un hI cl).2.1, (Inv_un hI cl).2.2.1, (Inv_un hI cl).2.2.2.1, (Inv_un hI cl).2.2.2.2⟩)
        have eV : B_V_crash fz (nI 1) v = B_V_crash_68 fz (u2 (u2 (B_T_changeFates fz (nI 1) 3 4 (B_T_changeFates fz (nI 1) 1 4 (u2 v 11 10 0))) 11 9 1) 11 11 0) := by simp only [B_V_crash, B_V_crash_31, B_V_crash_41, B_V_crash_51, vN_1, mN_1, nO_1, pO_1, ixb_1, vpb_1, om_1, ixb_0, vpb_0, s5b, s13b, c10, q1, c11, eq_self, one0, if_true, if_false, not_true_eq_false, not_false_eq_true, true_implies, false_implies, implies_true, and_true, true_and]
        have em : B_M_crash_39 fz (nI 1) (B_M_turnInto fz (nI 1) 3 4 (B_M_turnInto fz (nI 1) 1 4 (u2 m 42 1 0))) = B_M_crash_75 fz (u2 (u2 (B_M_turnInto fz (nI 1) 3 4 (B_M_turnInto fz (nI 1) 1 4 (u2 m 42 1 0))) 41 1 1) 43 1 0) := by
          by_cases c9 : sc 9 1 = 0
          · simp only [B_M_crash_39, B_M_crash_62, ixb_1, q2, q3, c9, c11, eq_self, one0, if_true, if_false, not_true_eq_false, not_false_eq_true, true_implies, false_implies, implies_true, and_true, true_and]
          · simp only [B_M_crash_39, B_M_crash_62, ixb_1, q2, c9, eq_self, one0, if_true, if_false, not_true_eq_false, not_false_eq_true, true_implies, false_implies, implies_true, and_true, true_and]
        have pm : P_M_crash_39 fz (nI 1) (B_M_turnInto fz (nI 1) 3 4 (B_M_turnInto fz (nI 1) 1 4 (u2 m 42 1 0))) := by
          by_cases c9 : sc 9 1 = 0
          · simp only [P_M_crash_39, P_M_crash_62, ixb_1, vpb_1, q2, q3, c9, c11, w2, eq_self, one0, if_true, if_false, not_true_eq_false, not_false_eq_true, true_implies, false_implies, implies_true, and_true, true_and]
          · simp only [P_M_crash_39, P_M_crash_62, ixb_1, vpb_1, q2, c9, w2, eq_self, one0, if_true, if_false, not_true_eq_false, not_false_eq_true, true_implies, false_implies, implies_true, and_true, true_and]
        have eM : B_M_crash fz (nI 1) m = B_M_crash_75 fz (u2 (u2 (B_M_turnInto fz (nI 1) 3 4 (B_M_turnInto fz (nI 1) 1 4 (u2 m 42 1 0))) 41 1 1) 43 1 0) := by simp only [B_M_crash, B_M_crash_25, B_M_crash_32, vN_1, mN_1, nO_1, pO_1, ixb_1, vpb_1, om_1, ixb_0, vpb_0, s5b, s13b, c10, em, eq_self, one0, if_true, if_false, not_true_eq_false, not_false_eq_true, true_implies, false_implies, implies_true, and_true, true_and]
        refine ⟨by simp only [P_V_crash, P_V_crash_31, P_V_crash_41, P_V_crash_51, pT_isNode, pT_nodeOf, vN_1, mN_1, nO_1, pO_1, ixb_1, vpb_1, om_1, ixb_0, vpb_0, s5b, s13b, c10, q1, c11, p1, p3, w1, eq_self, one0, if_true, if_false, not_true_eq_false, not_false_eq_true, true_implies, false_implies, implies_true, and_true, true_and], by simp only [P_M_crash, P_M_crash_25, P_M_crash_32, pT_isNodeM, vN_1, mN_1, nO_1, pO_1, ixb_1, vpb_1, om_1, ixb_0, vpb_0, s5b, s13b, c10, p2, p4, pm, eq_self, one0, if_true, if_false, not_true_eq_false, not_false_eq_true, true_implies, false_implies, implies_true, and_true, true_and], ?_⟩
        rw [eV, eM]
        exact w3
theorem S_restart (fz : Nat) (hz : 400 ≤ fz) {t : Nat} (ht : t ≤ 600) {v m : HH} (hJ : J2 t v m) (x : Int32) : P_V_restart fz x v ∧ P_M_restart fz x m ∧ RS t (B_V_restart fz x v) (B_M_restart fz x m) := by
  rcases ndc x with ⟨h0, h1⟩ | rfl | rfl
  · have eV : B_V_restart fz x v = (0, v) := by simp only [B_V_restart, vN_n fz v h0 h1, eq_self, one0, if_true, if_false, not_true_eq_false, not_false_eq_true, true_implies, false_implies, implies_true, and_true, true_and]
    have eM : B_M_restart fz x m = (0, m) := by simp only [B_M_restart, mN_n fz m h0 h1, eq_self, one0, if_true, if_false, not_true_eq_false, not_false_eq_true, true_implies, false_implies, implies_true, and_true, true_and]
    refine ⟨by simp only [P_V_restart, pT_isNode, vN_n fz v h0 h1, eq_self, one0, if_true, if_false, not_true_eq_false, not_false_eq_true, true_implies, false_implies, implies_true, and_true, true_and], by simp only [P_M_restart, pT_isNodeM, mN_n fz m h0 h1, eq_self, one0, if_true, if_false, not_true_eq_false, not_false_eq_true, true_implies, false_implies, implies_true, and_true, true_and], ?_⟩
    rw [eV, eM]
    exact RS.same hJ _
  · have hJ0 := hJ
    obtain ⟨n, own, blk, ep, ft, sc, lk, gr, mp, un, q, wt, wx, lg, us, pv, hR, hI⟩ := hJ
    have hR' := hR
    obtain ⟨hL, hT, hX, hS0, hM0, hD0, hR0, hA0, hW0, hG0, hU0, hE0, hS1, hM1, hD1, hR1, hA1, hW1, hG1, hU1, hE1⟩ := hR'
    have hI' := hI
    obtain ⟨iT, iG, iN0, iN1, iQ0, iQ1, iR0, iR1, iW, iC, iK, iE⟩ := hI'
    obtain ⟨s0a, s1a, s2a, s3a, s4a, s5a, s6a, s7a, s8a, s9a, s10a, s11a, s12a, s13a, s14a, s15a, s16a⟩ := hS0
    obtain ⟨s0b, s1b, s2b, s3b, s4b, s5b, s6b, s7b, s8b, s9b, s10b, s11b, s12b, s13b, s14b, s15b, s16b⟩ := hS1
    obtain ⟨l1, l2, l3, l4⟩ := hL
    by_cases c10 : sc 10 0 = 0
    · have r1 := r_set_10_0 hR 1
      have q9 : (u2 v 1 10 1) 1 9 = sc 9 0 := s4a
      have k9 : (u2 m 42 0 1) 41 0 = sc 9 0 := s12a
      have cm := cv_restart fz hz (b := 0) (by decide) (u2 m 42 0 1)
      by_cases c9 : sc 9 0 = 0
      · have er : rs 35 (32 * 0 + 0) (32 * 0 + 32) (fun k => if ¬ (u2 m 42 0 1) 41 0 = 0 ∧ ¬ (u2 m 42 0 1) 36 (8 * 0 + (k - 32 * 0) / 4) = 0 then 1 else (u2 m 42 0 1) 35 k) (u2 m 42 0 1) = u2 m 42 0 1 := rs_id (fun k h1 h2 => by rw [if_neg (fun r => r.1 (k9.trans c9))])
        rw [er] at cm
        have eV : B_V_restart fz (nI 0) v = (1, u2 v 1 10 1) := by simp only [B_V_restart, B_V_restart_31, vN_0, mN_0, nO_0, pO_0, ixb_0, vpb_0, om_0, ixb_1, vpb_1, s5a, s13a, c10, q9, c9, eq_self, one0, if_true, if_false, not_true_eq_false, not_false_eq_true, true_implies, false_implies, implies_true, and_true, true_and]
        have eM : B_M_restart fz (nI 0) m = (1, u2 m 42 0 1) := by simp only [B_M_restart, vN_0, mN_0, nO_0, pO_0, ixb_0, vpb_0, om_0, ixb_1, vpb_1, s5a, s13a, c10, cm, eq_self, one0, if_true, if_false, not_true_eq_false, not_false_eq_true, true_implies, false_implies, implies_true, and_true, true_and]
        refine ⟨by simp only [P_V_restart, P_V_restart_31, pT_isNode, pT_nodeOf, vN_0, mN_0, nO_0, pO_0, ixb_0, vpb_0, om_0, ixb_1, vpb_1, s5a, s13a, c10, q9, c9, eq_self, one0, if_true, if_false, not_true_eq_false, not_false_eq_true, true_implies, false_implies, implies_true, and_true, true_and], by simp only [P_M_restart, pT_isNodeM, vN_0, mN_0, nO_0, pO_0, ixb_0, vpb_0, om_0, ixb_1, vpb_1, s5a, s13a, c10, cm, eq_self, one0, if_true, if_false, not_true_eq_false, not_false_eq_true, true_implies, false_implies, implies_true, and_true, true_and], ?_⟩
        rw [eV, eM]
        exact ⟨rfl, n, own, blk, ep, ft, u2 sc 10 0 1, lk, gr, mp, un, q, wt, wx, lg, us, pv, r1, hI.mono (by omega)⟩
      · obtain ⟨g1, g2, g3, g4, g5, g6⟩ := hG0
        have ca := cv_allBlocks fz hz 1 (u2 v 1 10 1) (s := (lg 0).length) g1 g2 (fun p hp => ⟨(lg 0)[p], (g5 _ (List.getElem_mem hp)).1, g3 p _ (List.getElem?_eq_getElem hp)⟩)
        have hf : ∀ j, j < 32 → (fun k => if ¬ (u2 m 42 0 1) 41 0 = 0 ∧ ¬ (u2 m 42 0 1) 36 (8 * 0 + (k - 32 * 0) / 4) = 0 then 1 else (u2 m 42 0 1) 35 k) (32 * 0 + j) = bi (bt ((u2 v 1 10 1) 1 5 ||| B_E_allBlocks fz 1 (u2 v 1 10 1)) j) := by
          intro j hj
          have ej : (32 * 0 + j - 32 * 0) / 4 = j / 4 := by omega
          have e36 : (u2 m 42 0 1) 36 (8 * 0 + j / 4) = bi (decide (j / 4 ∈ lg 0)) := (g4 (j / 4) (by omega)).1
          have e35 : (u2 m 42 0 1) 35 (32 * 0 + j) = bi (mp 0 j) := (hM0 j hj).2
          have e5 : bt ((u2 v 1 10 1) 1 5) j = mp 0 j := (hM0 j hj).1
          have hiff : bt (B_E_allBlocks fz 1 (u2 v 1 10 1)) j = true ↔ j / 4 ∈ lg 0 := by
            rw [ca.2 j hj]
            constructor
            · rintro ⟨r, hr1, hr2⟩
              have h3 : (u2 v 1 10 1) (1 + 3) r = nI ((lg 0)[r]) := g3 r _ (List.getElem?_eq_getElem hr1)
              have h4 := (g5 _ (List.getElem_mem hr1)).1
              have h5 : (lg 0)[r] = j / 4 := (nI_eq (by omega) (by omega)).mp (h3.symm.trans hr2)
              rw [← h5]
              exact List.getElem_mem hr1
            · intro hm
              obtain ⟨r, hr1, hr2⟩ := List.getElem_of_mem hm
              exact ⟨r, hr1, (g3 r _ (List.getElem?_eq_getElem hr1)).trans (by rw [hr2])⟩
          show (if ¬ (u2 m 42 0 1) 41 0 = 0 ∧ ¬ (u2 m 42 0 1) 36 (8 * 0 + (32 * 0 + j - 32 * 0) / 4) = 0 then (1 : Int32) else (u2 m 42 0 1) 35 (32 * 0 + j)) = _
          rw [ej, k9, e36, e35, b_or, e5]
          by_cases hm : j / 4 ∈ lg 0
          · rw [if_pos ⟨c9, by simp [hm, bi]⟩, hiff.mpr hm, Bool.or_true]
            rfl
          · have h0 : bt (B_E_allBlocks fz 1 (u2 v 1 10 1)) j = false := by
              cases h : bt (B_E_allBlocks fz 1 (u2 v 1 10 1)) j with
              | false => rfl
              | true => exact absurd (hiff.mp h) hm
            rw [if_neg (fun r => r.2 (by simp [hm, bi])), h0, Bool.or_false]
        have r2 := r_mapall_0 (X := ((u2 v 1 10 1) 1 5 ||| B_E_allBlocks fz 1 (u2 v 1 10 1))) (f := (fun k => if ¬ (u2 m 42 0 1) 41 0 = 0 ∧ ¬ (u2 m 42 0 1) 36 (8 * 0 + (k - 32 * 0) / 4) = 0 then 1 else (u2 m 42 0 1) 35 k)) r1 hf
        have eV : B_V_restart fz (nI 0) v = (1, u2 (u2 v 1 10 1) 1 5 ((u2 v 1 10 1) 1 5 ||| B_E_allBlocks fz 1 (u2 v 1 10 1))) := by simp only [B_V_restart, B_V_restart_31, vN_0, mN_0, nO_0, pO_0, ixb_0, vpb_0, om_0, ixb_1, vpb_1, s5a, s13a, c10, q9, c9, eq_self, one0, if_true, if_false, not_true_eq_false, not_false_eq_true, true_implies, false_implies, implies_true, and_true, true_and]
        have eM : B_M_restart fz (nI 0) m = (1, rs 35 (32 * 0 + 0) (32 * 0 + 32) (fun k => if ¬ (u2 m 42 0 1) 41 0 = 0 ∧ ¬ (u2 m 42 0 1) 36 (8 * 0 + (k - 32 * 0) / 4) = 0 then 1 else (u2 m 42 0 1) 35 k) (u2 m 42 0 1)) := by simp only [B_M_restart, vN_0, mN_0, nO_0, pO_0, ixb_0, vpb_0, om_0, ixb_1, vpb_1, s5a, s13a, c10, cm, eq_self, one0, if_true, if_false, not_true_eq_false, not_false_eq_true, true_implies, false_implies, implies_true, and_true, true_and]
        refine ⟨by simp only [P_V_restart, P_V_restart_31, pT_isNode, pT_nodeOf, vN_0, mN_0, nO_0, pO_0, ixb_0, vpb_0, om_0, ixb_1, vpb_1, s5a, s13a, c10, q9, c9, ca.1, eq_self, one0, if_true, if_false, not_true_eq_false, not_false_eq_true, true_implies, false_implies, implies_true, and_true, true_and], by simp only [P_M_restart, pT_isNodeM, vN_0, mN_0, nO_0, pO_0, ixb_0, vpb_0, om_0, ixb_1, vpb_1, s5a, s13a, c10, cm, eq_self, one0, if_true, if_false, not_true_eq_false, not_false_eq_true, true_implies, false_implies, implies_true, and_true, true_and], ?_⟩
        rw [eV, eM]
        have hJm := hI.mono (show t ≤ t + 1 by omega)
        obtain ⟨jT, jG, jN0, jN1, jr⟩ := hJm
        refine ⟨rfl, n, own, blk, ep, ft, u2 sc 10 0 1, lk, gr, ug mp 0 (bt ((u2 v 1 10 1) 1 5 ||| B_E_allBlocks fz 1 (u2 v 1 10 1))), un, q, wt, wx, lg, us, pv, r2, jT, jG, ?_, jN1, jr⟩
        refine jN0.marks (fun j hj => ?_)
        obtain ⟨h1, h2, h3⟩ := jN0.2.2.2.1 j hj
        have e5 : bt ((u2 v 1 10 1) 1 5) j = mp 0 j := (hM0 j h1).1
        refine ⟨?_, h3⟩
        show bt ((u2 v 1 10 1) 1 5 ||| B_E_allBlocks fz 1 (u2 v 1 10 1)) j = true
        rw [b_or, e5, h2]
        rfl
    · have eV : B_V_restart fz (nI 0) v = (0, v) := by simp only [B_V_restart, vN_0, mN_0, nO_0, pO_0, ixb_0, vpb_0, om_0, ixb_1, vpb_1, s5a, s13a, c10, eq_self, one0, if_true, if_false, not_true_eq_false, not_false_eq_true, true_implies, false_implies, implies_true, and_true, true_and]
      have eM : B_M_restart fz (nI 0) m = (0, m) := by simp only [B_M_restart, vN_0, mN_0, nO_0, pO_0, ixb_0, vpb_0, om_0, ixb_1, vpb_1, s5a, s13a, c10, eq_self, one0, if_true, if_false, not_true_eq_false, not_false_eq_true, true_implies, false_implies, implies_true, and_true, true_and]
      refine ⟨by simp only [P_V_restart, pT_isNode, pT_nodeOf, pT_peerOf, vN_0, mN_0, nO_0, pO_0, ixb_0, vpb_0, om_0, ixb_1, vpb_1, s5a, s13a, c10, eq_self, one0, if_true, if_false, not_true_eq_false, not_false_eq_true, true_implies, false_implies, implies_true, and_true, true_and], by simp only [P_M_restart, pT_isNodeM, vN_0, mN_0, nO_0, pO_0, ixb_0, vpb_0, om_0, ixb_1, vpb_1, s5a, s13a, c10, eq_self, one0, if_true, if_false, not_true_eq_false, not_false_eq_true, true_implies, false_implies, implies_true, and_true, true_and], ?_⟩
      rw [eV, eM]
      exact RS.same hJ0 _
  · have hJ0 := hJ
    obtain ⟨n, own, blk, ep, ft, sc, lk, gr, mp, un, q, wt, wx, lg, us, pv, hR, hI⟩ := hJ
    have hR' := hR
    obtain ⟨hL, hT, hX, hS0, hM0, hD0, hR0, hA0, hW0, hG0, hU0, hE0, hS1, hM1, hD1, hR1, hA1, hW1, hG1, hU1, hE1⟩ := hR'
    have hI' := hI
    obtain ⟨iT, iG, iN0, iN1, iQ0, iQ1, iR0, iR1, iW, iC, iK, iE⟩ := hI'
    obtain ⟨s0a, s1a, s2a, s3a, s4a, s5a, s6a, s7a, s8a, s9a, s10a, s11a, s12a, s13a, s14a, s15a, s16a⟩ := hS0
    obtain ⟨s0b, s1b, s2b, s3b, s4b, s5b, s6b, s7b, s8b, s9b, s10b, s11b, s12b, s13b, s14b, s15b, s16b⟩ := hS1
    obtain ⟨l1, l2, l3, l4⟩ := hL
    by_cases c10 : sc 10 1 = 0
    · have r1 := r_set_10_1 hR 1
      have q9 : (u2 v 11 10 1) 11 9 = sc 9 1 := s4b
      have k9 : (u2 m 42 1 1) 41 1 = sc 9 1 := s12b
      have cm := cv_restart fz hz (b := 1) (by decide) (u2 m 42 1 1)
      by_cases c9 : sc 9 1 = 0
      · have er : rs 35 (32 * 1 + 0) (32 * 1 + 32) (fun k => if ¬ (u2 m 42 1 1) 41 1 = 0 ∧ ¬ (u2 m 42 1 1) 36 (8 * 1 + (k - 32 * 1) / 4) = 0 then 1 else (u2 m 42 1 1) 35 k) (u2 m 42 1 1) = u2 m 42 1 1 := rs_id (fun k h1 h2 => by rw [if_neg (fun r => r.1 (k9.trans c9))])
        rw [er] at cm
        have eV : B_V_restart fz (nI 1) v = (1, u2 v 11 10 1) := by simp only [B_V_restart, B_V_restart_31, vN_1, mN_1, nO_1, pO_1, ixb_1, vpb_1, om_1, ixb_0, vpb_0, s5b, s13b, c10, q9, c9, eq_self, one0, if_true, if_false, not_true_eq_false, not_false_eq_true, true_implies, false_implies, implies_true, and_true, true_and]
        have eM : B_M_restart fz (nI 1) m = (1, u2 m 42 1 1) := by simp only [B_M_restart, vN_1, mN_1, nO_1, pO_1, ixb_1, vpb_1, om_1, ixb_0, vpb_0, s5b, s13b, c10, cm, eq_self, one0, if_true, if_false, not_true_eq_false, not_false_eq_true, true_implies, false_implies, implies_true, and_true, true_and]
        refine ⟨by simp only [P_V_restart, P_V_restart_31, pT_isNode, pT_nodeOf, vN_1, mN_1, nO_1, pO_1, ixb_1, vpb_1, om_1, ixb_0, vpb_0, s5b, s13b, c10, q9, c9, eq_self, one0, if_true, if_false, not_true_eq_false, not_false_eq_true, true_implies, false_implies, implies_true, and_true, true_and], by simp only [P_M_restart, pT_isNodeM, vN_1, mN_1, nO_1, pO_1, ixb_1, vpb_1, om_1, ixb_0, vpb_0, s5b, s13b, c10, cm, eq_self, one0, if_true, if_false, not_true_eq_false, not_false_eq_true, true_implies, false_implies, implies_true, and_true, true_and], ?_⟩
        rw [eV, eM]
        exact ⟨rfl, n, own, blk, ep, ft, u2 sc 10 1 1, lk, gr, mp, un, q, wt, wx, lg, us, pv, r1, hI.mono (by omega)⟩
      · obtain ⟨g1, g2, g3, g4, g5, g6⟩ := hG1
        have ca := cv_allBlocks fz hz 11 (u2 v 11 10 1) (s := (lg 1).length) g1 g2 (fun p hp => ⟨(lg 1)[p], (g5 _ (List.getElem_mem hp)).1, g3 p _ (List.getElem?_eq_getElem hp)⟩)
        have hf : ∀ j, j < 32 → (fun k => if ¬ (u2 m 42 1 1) 41 1 = 0 ∧ ¬ (u2 m 42 1 1) 36 (8 * 1 + (k - 32 * 1) / 4) = 0 then 1 else (u2 m 42 1 1) 35 k) (32 * 1 + j) = bi (bt ((u2 v 11 10 1) 11 5 ||| B_E_allBlocks fz 11 (u2 v 11 10 1)) j) := by
          intro j hj
          have ej : (32 * 1 + j - 32 * 1) / 4 = j / 4 := by omega
          have e36 : (u2 m 42 1 1) 36 (8 * 1 + j / 4) = bi (decide (j / 4 ∈ lg 1)) := (g4 (j / 4) (by omega)).1
          have e35 : (u2 m 42 1 1) 35 (32 * 1 + j) = bi (mp 1 j) := (hM1 j hj).2
          have e5 : bt ((u2 v 11 10 1) 11 5) j = mp 1 j := (hM1 j hj).1
          have hiff : bt (B_E_allBlocks fz 11 (u2 v 11 10 1)) j = true ↔ j / 4 ∈ lg 1 := by
            rw [ca.2 j hj]
            constructor
            · rintro ⟨r, hr1, hr2⟩
              have h3 : (u2 v 11 10 1) (11 + 3) r = nI ((lg 1)[r]) := g3 r _ (List.getElem?_eq_getElem hr1)
              have h4 := (g5 _ (List.getElem_mem hr1)).1
              have h5 : (lg 1)[r] = j / 4 := (nI_eq (by omega) (by omega)).mp (h3.symm.trans hr2)
              rw [← h5]
              exact List.getElem_mem hr1
            · intro hm
              obtain ⟨r, hr1, hr2⟩ := List.getElem_of_mem hm
              exact ⟨r, hr1, (g3 r _ (List.getElem?_eq_getElem hr1)).trans (by rw [hr2])⟩
          show (if ¬ (u2 m 42 1 1) 41 1 = 0 ∧ ¬ (u2 m 42 1 1) 36 (8 * 1 + (32 * 1 + j - 32 * 1) / 4) = 0 then (1 : Int32) else (u2 m 42 1 1) 35 (32 * 1 + j)) = _
          rw [ej, k9, e36, e35, b_or, e5]
          by_cases hm : j / 4 ∈ lg 1
          · rw [if_pos ⟨c9, by simp [hm, bi]⟩, hiff.mpr hm, Bool.or_true]
            rfl
          · have h0 : bt (B_E_allBlocks fz 11 (u2 v 11 10 1)) j = false := by
              cases h : bt (B_E_allBlocks fz 11 (u2 v 11 10 1)) j with
              | false => rfl
              | true => exact absurd (hiff.mp h) hm
            rw [if_neg (fun r => r.2 (by simp [hm, bi])), h0, Bool.or_false]
        have r2 := r_mapall_1 (X := ((u2 v 11 10 1) 11 5 ||| B_E_allBlocks fz 11 (u2 v 11 10 1))) (f := (fun k => if ¬ (u2 m 42 1 1) 41 1 = 0 ∧ ¬ (u2 m 42 1 1) 36 (8 * 1 + (k - 32 * 1) / 4) = 0 then 1 else (u2 m 42 1 1) 35 k)) r1 hf
        have eV : B_V_restart fz (nI 1) v = (1, u2 (u2 v 11 10 1) 11 5 ((u2 v 11 10 1) 11 5 ||| B_E_allBlocks fz 11 (u2 v 11 10 1))) := by simp only [B_V_restart, B_V_restart_31, vN_1, mN_1, nO_1, pO_1, ixb_1, vpb_1, om_1, ixb_0, vpb_0, s5b, s13b, c10, q9, c9, eq_self, one0, if_true, if_false, not_true_eq_false, not_false_eq_true, true_implies, false_implies, implies_true, and_true, true_and]
        have eM : B_M_restart fz (nI 1) m = (1, rs 35 (32 * 1 + 0) (32 * 1 + 32) (fun k => if ¬ (u2 m 42 1 1) 41 1 = 0 ∧ ¬ (u2 m 42 1 1) 36 (8 * 1 + (k - 32 * 1) / 4) = 0 then 1 else (u2 m 42 1 1) 35 k) (u2 m 42 1 1)) := by simp only [B_M_restart, vN_1, mN_1, nO_1, pO_1, ixb_1, vpb_1, om_1, ixb_0, vpb_0, s5b, s13b, c10, cm, eq_self, one0, if_true, if_false, not_true_eq_false, not_false_eq_true, true_implies, false_implies, implies_true, and_true, true_and]
        refine ⟨by simp only [P_V_restart, P_V_restart_31, pT_isNode, pT_nodeOf, vN_1, mN_1, nO_1, pO_1, ixb_1, vpb_1, om_1, ixb_0, vpb_0, s5b, s13b, c10, q9, c9, ca.1, eq_self, one0, if_true, if_false, not_true_eq_false, not_false_eq_true, true_implies, false_implies, implies_true, and_true, true_and], by simp only [P_M_restart, pT_isNodeM, vN_1, mN_1, nO_1, pO_1, ixb_1, vpb_1, om_1, ixb_0, vpb_0, s5b, s13b, c10, cm, eq_self, one0, if_true, if_false, not_true_eq_false, not_false_eq_true, true_implies, false_implies, implies_true, and_true, true_and], ?_⟩
        rw [eV, eM]
        have hJm := hI.mono (show t ≤ t + 1 by omega)
        obtain ⟨jT, jG, jN0, jN1, jr⟩ := hJm
        refine ⟨rfl, n, own, blk, ep, ft, u2 sc 10 1 1, lk, gr, ug mp 1 (bt ((u2 v 11 10 1) 11 5 ||| B_E_allBlocks fz 11 (u2 v 11 10 1))), un, q, wt, wx, lg, us, pv, r2, jT, jG, jN0, ?_, jr⟩
        refine jN1.marks (fun j hj => ?_)
        obtain ⟨h1, h2, h3⟩ := jN1.2.2.2.1 j hj
        have e5 : bt ((u2 v 11 10 1) 11 5) j = mp 1 j := (hM1 j h1).1
        refine ⟨?_, h3⟩
        show bt ((u2 v 11 10 1) 11 5 ||| B_E_allBlocks fz 11 (u2 v 11 10 1)) j = true
        rw [b_or, e5, h2]
        rfl
    · have eV : B_V_restart fz (nI 1) v = (0, v) := by simp only [B_V_restart, vN_1, mN_1, nO_1, pO_1, ixb_1, vpb_1, om_1, ixb_0, vpb_0, s5b, s13b, c10, eq_self, one0, if_true, if_false, not_true_eq_false, not_false_eq_true, true_implies, false_implies, implies_true, and_true, true_and]
      have eM : B_M_restart fz (nI 1) m = (0, m) := by simp only [B_M_restart, vN_1, mN_1, nO_1, pO_1, ixb_1, vpb_1, om_1, ixb_0, vpb_0, s5b, s13b, c10, eq_self, one0, if_true, if_false, not_true_eq_false, not_false_eq_true, true_implies, false_implies, implies_true, and_true, true_and]
      refine ⟨by simp only [P_V_restart, pT_isNode, pT_nodeOf, pT_peerOf, vN_1, mN_1, nO_1, pO_1, ixb_1, vpb_1, om_1, ixb_0, vpb_0, s5b, s13b, c10, eq_self, one0, if_true, if_false, not_true_eq_false, not_false_eq_true, true_implies, false_implies, implies_true, and_true, true_and], by simp only [P_M_restart, pT_isNodeM, vN_1, mN_1, nO_1, pO_1, ixb_1, vpb_1, om_1, ixb_0, vpb_0, s5b, s13b, c10, eq_self, one0, if_true, if_false, not_true_eq_false, not_false_eq_true, true_implies, false_implies, implies_true, and_true, true_and], ?_⟩
      rw [eV, eM]
      exact RS.same hJ0 _
theorem S_discard (fz : Nat) (hz : 400 ≤ fz) {t : Nat} (ht : t ≤ 600) {v m : HH} (hJ : J2 t v m) (x : Int32) : P_V_discard fz x v ∧ P_M_discard fz x m ∧ RS t (B_V_discard fz x v) (B_M_discard fz x m) := by
  rcases ndc x with ⟨h0, h1⟩ | rfl | rfl
  · have eV : B_V_discard fz x v = (0, v) := by simp only [B_V_discard, vN_n fz v h0 h1, eq_self, one0, if_true, if_false, not_true_eq_false, not_false_eq_true, true_implies, false_implies, implies_true, and_true, true_and]
    have eM : B_M_discard fz x m = (0, m) := by simp only [B_M_discard, mN_n fz m h0 h1, eq_self, one0, if_true, if_false, not_true_eq_false, not_false_eq_true, true_implies, false_implies, implies_true, and_true, true_and]
    refine ⟨by simp only [P_V_discard, pT_isNode, vN_n fz v h0 h1, eq_self, one0, if_true, if_false, not_true_eq_false, not_false_eq_true, true_implies, false_implies, implies_true, and_true, true_and], by simp only [P_M_discard, pT_isNodeM, mN_n fz m h0 h1, eq_self, one0, if_true, if_false, not_true_eq_false, not_false_eq_true, true_implies, false_implies, implies_true, and_true, true_and], ?_⟩
    rw [eV, eM]
    exact RS.same hJ _
  · have hJ0 := hJ
    obtain ⟨n, own, blk, ep, ft, sc, lk, gr, mp, un, q, wt, wx, lg, us, pv, hR, hI⟩ := hJ
    have hR' := hR
    obtain ⟨hL, hT, hX, hS0, hM0, hD0, hR0, hA0, hW0, hG0, hU0, hE0, hS1, hM1, hD1, hR1, hA1, hW1, hG1, hU1, hE1⟩ := hR'
    have hI' := hI
    obtain ⟨iT, iG, iN0, iN1, iQ0, iQ1, iR0, iR1, iW, iC, iK, iE⟩ := hI'
    obtain ⟨s0a, s1a, s2a, s3a, s4a, s5a, s6a, s7a, s8a, s9a, s10a, s11a, s12a, s13a, s14a, s15a, s16a⟩ := hS0
    obtain ⟨s0b, s1b, s2b, s3b, s4b, s5b, s6b, s7b, s8b, s9b, s10b, s11b, s12b, s13b, s14b, s15b, s16b⟩ := hS1
    obtain ⟨l1, l2, l3, l4⟩ := hL
    by_cases c10 : sc 10 0 = 0
    · by_cases cl : lk = 0
      · have eV : B_V_discard fz (nI 0) v = (0, v) := by simp only [B_V_discard, vN_0, mN_0, nO_0, pO_0, ixb_0, vpb_0, om_0, ixb_1, vpb_1, s5a, s13a, s6a, s14a, s3b, s11b, l1, l3, c10, cl, eq_self, one0, if_true, if_false, not_true_eq_false, not_false_eq_true, true_implies, false_implies, implies_true, and_true, true_and]
        have eM : B_M_discard fz (nI 0) m = (0, m) := by simp only [B_M_discard, vN_0, mN_0, nO_0, pO_0, ixb_0, vpb_0, om_0, ixb_1, vpb_1, s5a, s13a, s6a, s14a, s3b, s11b, l1, l3, c10, cl, eq_self, one0, if_true, if_false, not_true_eq_false, not_false_eq_true, true_implies, false_implies, implies_true, and_true, true_and]
        refine ⟨by simp only [P_V_discard, pT_isNode, pT_nodeOf, pT_peerOf, vN_0, mN_0, nO_0, pO_0, ixb_0, vpb_0, om_0, ixb_1, vpb_1, s5a, s13a, s6a, s14a, s3b, s11b, l1, l3, c10, cl, eq_self, one0, if_true, if_false, not_true_eq_false, not_false_eq_true, true_implies, false_implies, implies_true, and_true, true_and], by simp only [P_M_discard, pT_isNodeM, vN_0, mN_0, nO_0, pO_0, ixb_0, vpb_0, om_0, ixb_1, vpb_1, s5a, s13a, s6a, s14a, s3b, s11b, l1, l3, c10, cl, eq_self, one0, if_true, if_false, not_true_eq_false, not_false_eq_true, true_implies, false_implies, implies_true, and_true, true_and], ?_⟩
        rw [eV, eM]
        exact RS.same hJ0 _
      · have eV : B_V_discard fz (nI 0) v = (0, v) := by simp only [B_V_discard, vN_0, mN_0, nO_0, pO_0, ixb_0, vpb_0, om_0, ixb_1, vpb_1, s5a, s13a, s6a, s14a, s3b, s11b, l1, l3, c10, cl, eq_self, one0, if_true, if_false, not_true_eq_false, not_false_eq_true, true_implies, false_implies, implies_true, and_true, true_and]
        have eM : B_M_discard fz (nI 0) m = (0, m) := by simp only [B_M_discard, vN_0, mN_0, nO_0, pO_0, ixb_0, vpb_0, om_0, ixb_1, vpb_1, s5a, s13a, s6a, s14a, s3b, s11b, l1, l3, c10, cl, eq_self, one0, if_true, if_false, not_true_eq_false, not_false_eq_true, true_implies, false_implies, implies_true, and_true, true_and]
        refine ⟨by simp only [P_V_discard, pT_isNode, pT_nodeOf, pT_peerOf, vN_0, mN_0, nO_0, pO_0, ixb_0, vpb_0, om_0, ixb_1, vpb_1, s5a, s13a, s6a, s14a, s3b, s11b, l1, l3, c10, cl, eq_self, one0, if_true, if_false, not_true_eq_false, not_false_eq_true, true_implies, false_implies, implies_true, and_true, true_and], by simp only [P_M_discard, pT_isNodeM, vN_0, mN_0, nO_0, pO_0, ixb_0, vpb_0, om_0, ixb_1, vpb_1, s5a, s13a, s6a, s14a, s3b, s11b, l1, l3, c10, cl, eq_self, one0, if_true, if_false, not_true_eq_false, not_false_eq_true, true_implies, false_implies, implies_true, and_true, true_and], ?_⟩
        rw [eV, eM]
        exact RS.same hJ0 _
    · by_cases c11 : sc 11 0 = 0
      · by_cases cl : lk = 0
        · by_cases c8 : sc 8 1 = 0
          · have r1 := r_mapall_0 (X := 0) (f := fun _ => 0) (r_set_7_0 (r_set_6_0 (r_set_9_0 (r_set_8_0 hR 1) 0) 0) 0) (fun j _ => by rw [b_0]; rfl)
            obtain ⟨p1, p2, r2⟩ := r_chft fz hz iT.1 (fun w g1 g2 => ⟨(iT.2 w g1 g2).1, (iT.2 w g1 g2).2.2.2⟩) r1 (b := 0) (a := 3) (y := 4) (by decide) (by decide) (xb := nI 0) rfl (xb2 := nI 0) rfl li3 li4
            have cd := cv_discard fz hz (b := 0) (by decide) (u2 (u2 (u2 (u2 m 40 0 1) 41 0 0) 38 0 0) 39 0 0) p2
            have eV : B_V_discard fz (nI 0) v = (1, B_T_changeFates fz (nI 0) 3 4 (u2 (u2 (u2 (u2 (u2 v 1 8 1) 1 9 0) 1 6 0) 1 7 0) 1 5 0)) := by simp only [B_V_discard, B_V_discard_74, vN_0, mN_0, nO_0, pO_0, ixb_0, vpb_0, om_0, ixb_1, vpb_1, s5a, s13a, s6a, s14a, s3b, s11b, l1, l3, c10, c11, cl, c8, eq_self, one0, if_true, if_false, not_true_eq_false, not_false_eq_true, true_implies, false_implies, implies_true, and_true, true_and]
            have eM : B_M_discard fz (nI 0) m = (1, B_M_turnInto fz (nI 0) 3 4 (rs 35 (32 * 0 + 0) (32 * 0 + 32) (fun _ => 0) (u2 (u2 (u2 (u2 m 40 0 1) 41 0 0) 38 0 0) 39 0 0))) := by simp only [B_M_discard, vN_0, mN_0, nO_0, pO_0, ixb_0, vpb_0, om_0, ixb_1, vpb_1, s5a, s13a, s6a, s14a, s3b, s11b, l1, l3, c10, c11, cl, c8, cd, eq_self, one0, if_true, if_false, not_true_eq_false, not_false_eq_true, true_implies, false_implies, implies_true, and_true, true_and]
            refine ⟨by simp only [P_V_discard, P_V_discard_74, pT_isNode, pT_nodeOf, pT_peerOf, vN_0, mN_0, nO_0, pO_0, ixb_0, vpb_0, om_0, ixb_1, vpb_1, s5a, s13a, s6a, s14a, s3b, s11b, l1, l3, c10, c11, cl, c8, p1, eq_self, one0, if_true, if_false, not_true_eq_false, not_false_eq_true, true_implies, false_implies, implies_true, and_true, true_and], by simp only [P_M_discard, pT_isNodeM, vN_0, mN_0, nO_0, pO_0, ixb_0, vpb_0, om_0, ixb_1, vpb_1, s5a, s13a, s6a, s14a, s3b, s11b, l1, l3, c10, c11, cl, c8, cd, eq_self, one0, if_true, if_false, not_true_eq_false, not_false_eq_true, true_implies, false_implies, implies_true, and_true, true_and], ?_⟩
            rw [eV, eM]
            obtain ⟨u1, u2', u3, ⟨u4, u5, u6, u7, u8, u9⟩, u10⟩ := Inv_un hI cl
            obtain ⟨g, g1, g2, g3⟩ := iG
            obtain ⟨c1, c2, c3, c4, c5, c6, c7', c8'⟩ := iC
            refine ⟨rfl, n, own, blk, ep, cft own ft 0 3 4 n, u2 (u2 (u2 (u2 sc 8 0 1) 9 0 0) 6 0 0) 7 0 0, lk, gr, ug mp 0 (bt 0), un, q, wt, wx, lg, us, pv, r2, Inv_down ⟨iT.1, fun w g1 g2 => ⟨(iT.2 w g1 g2).1, (iT.2 w g1 g2).2.1, (iT.2 w g1 g2).2.2.1, cft_lt (iT.2 w g1 g2).2.2.2 (by decide)⟩⟩ ⟨g, g1, g2, by omega⟩ (fun w h1 h2 => cft_n1 (by decide) (u1 w h1 h2)) u2' u3 u4 u5 u6 u7 u10 u8 u9 ?_ iE⟩
            exact ⟨fun _ => one0, fun r => absurd c8 (c2 r), fun r => absurd c8 r.2, fun r => absurd rfl r, fun r => absurd rfl r, fun r => absurd rfl r.1, Or.inl rfl, c8'⟩
          · have eV : B_V_discard fz (nI 0) v = (0, v) := by simp only [B_V_discard, vN_0, mN_0, nO_0, pO_0, ixb_0, vpb_0, om_0, ixb_1, vpb_1, s5a, s13a, s6a, s14a, s3b, s11b, l1, l3, c10, c11, cl, c8, eq_self, one0, if_true, if_false, not_true_eq_false, not_false_eq_true, true_implies, false_implies, implies_true, and_true, true_and]
            have eM : B_M_discard fz (nI 0) m = (0, m) := by simp only [B_M_discard, vN_0, mN_0, nO_0, pO_0, ixb_0, vpb_0, om_0, ixb_1, vpb_1, s5a, s13a, s6a, s14a, s3b, s11b, l1, l3, c10, c11, cl, c8, eq_self, one0, if_true, if_false, not_true_eq_false, not_false_eq_true, true_implies, false_implies, implies_true, and_true, true_and]
            refine ⟨by simp only [P_V_discard, pT_isNode, pT_nodeOf, pT_peerOf, vN_0, mN_0, nO_0, pO_0, ixb_0, vpb_0, om_0, ixb_1, vpb_1, s5a, s13a, s6a, s14a, s3b, s11b, l1, l3, c10, c11, cl, c8, eq_self, one0, if_true, if_false, not_true_eq_false, not_false_eq_true, true_implies, false_implies, implies_true, and_true, true_and], by simp only [P_M_discard, pT_isNodeM, vN_0, mN_0, nO_0, pO_0, ixb_0, vpb_0, om_0, ixb_1, vpb_1, s5a, s13a, s6a, s14a, s3b, s11b, l1, l3, c10, c11, cl, c8, eq_self, one0, if_true, if_false, not_true_eq_false, not_false_eq_true, true_implies, false_implies, implies_true, and_true, true_and], ?_⟩
            rw [eV, eM]
            exact RS.same hJ0 _
        · have eV : B_V_discard fz (nI 0) v = (0, v) := by simp only [B_V_discard, vN_0, mN_0, nO_0, pO_0, ixb_0, vpb_0, om_0, ixb_1, vpb_1, s5a, s13a, s6a, s14a, s3b, s11b, l1, l3, c10, c11, cl, eq_self, one0, if_true, if_false, not_true_eq_false, not_false_eq_true, true_implies, false_implies, implies_true, and_true, true_and]
          have eM : B_M_discard fz (nI 0) m = (0, m) := by simp only [B_M_discard, vN_0, mN_0, nO_0, pO_0, ixb_0, vpb_0, om_0, ixb_1, vpb_1, s5a, s13a, s6a, s14a, s3b, s11b, l1, l3, c10, c11, cl, eq_self, one0, if_true, if_false, not_true_eq_false, not_false_eq_true, true_implies, false_implies, implies_true, and_true, true_and]
          refine ⟨by simp only [P_V_discard, pT_isNode, pT_nodeOf, pT_peerOf, vN_0, mN_0, nO_0, pO_0, ixb_0, vpb_0, om_0, ixb_1, vpb_1, s5a, s13a, s6a, s14a, s3b, s11b, l1, l3, c10, c11, cl, eq_self, one0, if_true, if_false, not_true_eq_false, not_false_eq_true, true_implies, false_implies, implies_true, and_true, true_and], by simp only [P_M_discard, pT_isNodeM, vN_0, mN_0, nO_0, pO_0, ixb_0, vpb_0, om_0, ixb_1, vpb_1, s5a, s13a, s6a, s14a, s3b, s11b, l1, l3, c10, c11, cl, eq_self, one0, if_true, if_false, not_true_eq_false, not_false_eq_true, true_implies, false_implies, implies_true, and_true, true_and], ?_⟩
          rw [eV, eM]
          exact RS.same hJ0 _
      · by_cases cl : lk = 0
        · have eV : B_V_discard fz (nI 0) v = (0, v) := by simp only [B_V_discard, vN_0, mN_0, nO_0, pO_0, ixb_0, vpb_0, om_0, ixb_1, vpb_1, s5a, s13a, s6a, s14a, s3b, s11b, l1, l3, c10, c11, cl, eq_self, one0, if_true, if_false, not_true_eq_false, not_false_eq_true, true_implies, false_implies, implies_true, and_true, true_and]
          have eM : B_M_discard fz (nI 0) m = (0, m) := by simp only [B_M_discard, vN_0, mN_0, nO_0, pO_0, ixb_0, vpb_0, om_0, ixb_1, vpb_1, s5a, s13a, s6a, s14a, s3b, s11b, l1, l3, c10, c11, cl, eq_self, one0, if_true, if_false, not_true_eq_false, not_false_eq_true, true_implies, false_implies, implies_true, and_true, true_and]
          refine ⟨by simp only [P_V_discard, pT_isNode, pT_nodeOf, pT_peerOf, vN_0, mN_0, nO_0, pO_0, ixb_0, vpb_0, om_0, ixb_1, vpb_1, s5a, s13a, s6a, s14a, s3b, s11b, l1, l3, c10, c11, cl, eq_self, one0, if_true, if_false, not_true_eq_false, not_false_eq_true, true_implies, false_implies, implies_true, and_true, true_and], by simp only [P_M_discard, pT_isNodeM, vN_0, mN_0, nO_0, pO_0, ixb_0, vpb_0, om_0, ixb_1, vpb_1, s5a, s13a, s6a, s14a, s3b, s11b, l1, l3, c10, c11, cl, eq_self, one0, if_true, if_false, not_true_eq_false, not_false_eq_true, true_implies, false_implies, implies_true, and_true, true_and], ?_⟩
          rw [eV, eM]
          exact RS.same hJ0 _
        · have eV : B_V_discard fz (nI 0) v = (0, v) := by simp only [B_V_discard, vN_0, mN_0, nO_0, pO_0, ixb_0, vpb_0, om_0, ixb_1, vpb_1, s5a, s13a, s6a, s14a, s3b, s11b, l1, l3, c10, c11, cl, eq_self, one0, if_true, if_false, not_true_eq_false, not_false_eq_true, true_implies, false_implies, implies_true, and_true, true_and]
          have eM : B_M_discard fz (nI 0) m = (0, m) := by simp only [B_M_discard, vN_0, mN_0, nO_0, pO_0, ixb_0, vpb_0, om_0, ixb_1, vpb_1, s5a, s13a, s6a, s14a, s3b, s11b, l1, l3, c10, c11, cl, eq_self, one0, if_true, if_false, not_true_eq_false, not_false_eq_true, true_implies, false_implies, implies_true, and_true, true_and]
          refine ⟨by simp only [P_V_discard, pT_isNode, pT_nodeOf, pT_peerOf, vN_0, mN_0, nO_0, pO_0, ixb_0, vpb_0, om_0, ixb_1, vpb_1, s5a, s13a, s6a, s14a, s3b, s11b, l1, l3, c10, c11, cl, eq_self, one0, if_true, if_false, not_true_eq_false, not_false_eq_true, true_implies, false_implies, implies_true, and_true, true_and], by simp only [P_M_discard, pT_isNodeM, vN_0, mN_0, nO_0, pO_0, ixb_0, vpb_0, om_0, ixb_1, vpb_1, s5a, s13a, s6a, s14a, s3b, s11b, l1, l3, c10, c11, cl, eq_self, one0, if_true, if_false, not_true_eq_false, not_false_eq_true, true_implies, false_implies, implies_true, and_true, true_and], ?_⟩
          rw [eV, eM]
          exact RS.same hJ0 _
  · have hJ0 := hJ
    obtain ⟨n, own, blk, ep, ft, sc, lk, gr, mp, un, q, wt, wx, lg, us, pv, hR, hI⟩ := hJ
    have hR' := hR
    obtain ⟨hL, hT, hX, hS0, hM0, hD0, hR0, hA0, hW0, hG0, hU0, hE0, hS1, hM1, hD1, hR1, hA1, hW1, hG1, hU1, hE1⟩ := hR'
    have hI' := hI
    obtain ⟨iT, iG, iN0, iN1, iQ0, iQ1, iR0, iR1, iW, iC, iK, iE⟩ := hI'
    obtain ⟨s0a, s1a, s2a, s3a, s4a, s5a, s6a, s7a, s8a, s9a, s10a, s11a, s12a, s13a, s14a, s15a, s16a⟩ := hS0
    obtain ⟨s0b, s1b, s2b, s3b, s4b, s5b, s6b, s7b, s8b, s9b, s10b, s11b, s12b, s13b, s14b, s15b, s16b⟩ := hS1
    obtain ⟨l1, l2, l3, l4⟩ := hL
    by_cases c10 : sc 10 1 = 0
    · by_cases cl : lk = 0
      · have eV : B_V_discard fz (nI 1) v = (0, v) := by simp only [B_V_discard, vN_1, mN_1, nO_1, pO_1, ixb_1, vpb_1, om_1, ixb_0, vpb_0, s5b, s13b, s6b, s14b, s3a, s11a, l1, l3, c10, cl, eq_self, one0, if_true, if_false, not_true_eq_false, not_false_eq_true, true_implies, false_implies, implies_true, and_true, true_and]
        have eM : B_M_discard fz (nI 1) m = (0, m) := by simp only [B_M_discard, vN_1, mN_1, nO_1, pO_1, ixb_1, vpb_1, om_1, ixb_0, vpb_0, s5b, s13b, s6b, s14b, s3a, s11a, l1, l3, c10, cl, eq_self, one0, if_true, if_false, not_true_eq_false, not_false_eq_true, true_implies, false_implies, implies_true, and_true, true_and]
        refine ⟨by simp only [P_V_discard, pT_isNode, pT_nodeOf, pT_peerOf, vN_1, mN_1, nO_1, pO_1, ixb_1, vpb_1, om_1, ixb_0, vpb_0, s5b, s13b, s6b, s14b, s3a, s11a, l1, l3, c10, cl, eq_self, one0, if_true, if_false, not_true_eq_false, not_false_eq_true, true_implies, false_implies, implies_true, and_true, true_and], by simp only [P_M_discard, pT_isNodeM, vN_1, mN_1, nO_1, pO_1, ixb_1, vpb_1, om_1, ixb_0, vpb_0, s5b, s13b, s6b, s14b, s3a, s11a, l1, l3, c10, cl, eq_self, one0, if_true, if_false, not_true_eq_false, not_false_eq_true, true_implies, false_implies, implies_true, and_true, true_and], ?_⟩
        rw [eV, eM]
        exact RS.same hJ0 _
      · have eV : B_V_discard fz (nI 1) v = (0, v) := by simp only [B_V_discard, vN_1, mN_1, nO_1, pO_1, ixb_1, vpb_1, om_1, ixb_0, vpb_0, s5b, s13b, s6b, s14b, s3a, s11a, l1, l3, c10, cl, eq_self, one0, if_true, if_false, not_true_eq_false, not_false_eq_true, true_implies, false_implies, implies_true, and_true, true_and]
        have eM : B_M_discard fz (nI 1) m = (0, m) := by simp only [B_M_discard, vN_1, mN_1, nO_1, pO_1, ixb_1, vpb_1, om_1, ixb_0, vpb_0, s5b, s13b, s6b, s14b, s3a, s11a, l1, l3, c10, cl, eq_self, one0, if_true, if_false, not_true_eq_false, not_false_eq_true, true_implies, false_implies, implies_true, and_true, true_and]
        refine ⟨by simp only [P_V_discard, pT_isNode, pT_nodeOf, pT_peerOf, vN_1, mN_1, nO_1, pO_1, ixb_1, vpb_1, om_1, ixb_0, vpb_0, s5b, s13b, s6b, s14b, s3a, s11a, l1, l3, c10, cl, eq_self, one0, if_true, if_false, not_true_eq_false, not_false_eq_true, true_implies, false_implies, implies_true, and_true, true_and], by simp only [P_M_discard, pT_isNodeM, vN_1, mN_1, nO_1, pO_1, ixb_1, vpb_1, om_1, ixb_0, vpb_0, s5b, s13b, s6b, s14b, s3a, s11a, l1, l3, c10, cl, eq_self, one0, if_true, if_false, not_true_eq_false, not_false_eq_true, true_implies, false_implies, implies_true, and_true, true_and], ?_⟩
        rw [eV, eM]
        exact RS.same hJ0 _
    · by_cases c11 : sc 11 1 = 0
      · by_cases cl : lk = 0
        · by_cases c8 : sc 8 0 = 0
          · have r1 := r_mapall_1 (X := 0) (f := fun _ => 0) (r_set_7_1 (r_set_6_1 (r_set_9_1 (r_set_8_1 hR 1) 0) 0) 0) (fun j _ => by rw [b_0]; rfl)
            obtain ⟨p1, p2, r2⟩ := r_chft fz hz iT.1 (fun w g1 g2 => ⟨(iT.2 w g1 g2).1, (iT.2 w g1 g2).2.2.2⟩) r1 (b := 1) (a := 3) (y := 4) (by decide) (by decide) (xb := nI 1) rfl (xb2 := nI 1) rfl li3 li4
            have cd := cv_discard fz hz (b := 1) (by decide) (u2 (u2 (u2 (u2 m 40 1 1) 41 1 0) 38 1 0) 39 1 0) p2
            have eV : B_V_discard fz (nI 1) v = (1, B_T_changeFates fz (nI 1) 3 4 (u2 (u2 (u2 (u2 (u2 v 11 8 1) 11 9 0) 11 6 0) 11 7 0) 11 5 0)) := by simp only [B_V_discard, B_V_discard_74, vN_1, mN_1, nO_1, pO_1, ixb_1, vpb_1, om_1, ixb_0, vpb_0, s5b, s13b, s6b, s14b, s3a, s11a, l1, l3, c10, c11, cl, c8, eq_self, one0, if_true, if_false, not_true_eq_false, not_false_eq_true, true_implies, false_implies, implies_true, and_true, true_and]
            have eM : B_M_discard fz (nI 1) m = (1, B_M_turnInto fz (nI 1) 3 4 (rs 35 (32 * 1 + 0) (32 * 1 + 32) (fun _ => 0) (u2 (u2 (u2 (u2 m 40 1 1) 41 1 0) 38 1 0) 39 1 0))) := by simp only [B_M_discard, vN_1, mN_1, nO_1, pO_1, ixb_1, vpb_1, om_1, ixb_0, vpb_0, s5b, s13b, s6b, s14b, s3a, s11a, l1, l3, c10, c11, cl, c8, cd, eq_self, one0, if_true, if_false, not_true_eq_false, not_false_eq_true, true_implies, false_implies, implies_true, and_true, true_and]
            refine ⟨by simp only [P_V_discard, P_V_discard_74, pT_isNode, pT_nodeOf, pT_peerOf, vN_1, mN_1, nO_1, pO_1, ixb_1, vpb_1, om_1, ixb_0, vpb_0, s5b, s13b, s6b, s14b, s3a, s11a, l1, l3, c10, c11, cl, c8, p1, eq_self, one0, if_true, if_false, not_true_eq_false, not_false_eq_true, true_implies, false_implies, implies_true, and_true, true_and], by simp only [P_M_discard, pT_isNodeM, vN_1, mN_1, nO_1, pO_1, ixb_1, vpb_1, om_1, ixb_0, vpb_0, s5b, s13b, s6b, s14b, s3a, s11a, l1, l3, c10, c11, cl, c8, cd, eq_self, one0, if_true, if_false, not_true_eq_false, not_false_eq_true, true_implies, false_implies, implies_true, and_true, true_and], ?_⟩
            rw [eV, eM]
            obtain ⟨u1, u2', u3, ⟨u4, u5, u6, u7, u8, u9⟩, u10⟩ := Inv_un hI cl
            obtain ⟨g, g1, g2, g3⟩ := iG
            obtain ⟨c1, c2, c3, c4, c5, c6, c7', c8'⟩ := iC
            refine ⟨rfl, n, own, blk, ep, cft own ft 1 3 4 n, u2 (u2 (u2 (u2 sc 8 1 1) 9 1 0) 6 1 0) 7 1 0, lk, gr, ug mp 1 (bt 0), un, q, wt, wx, lg, us, pv, r2, Inv_down ⟨iT.1, fun w g1 g2 => ⟨(iT.2 w g1 g2).1, (iT.2 w g1 g2).2.1, (iT.2 w g1 g2).2.2.1, cft_lt (iT.2 w g1 g2).2.2.2 (by decide)⟩⟩ ⟨g, g1, g2, by omega⟩ (fun w h1 h2 => cft_n1 (by decide) (u1 w h1 h2)) u2' u3 u4 u5 u6 u7 u10 u8 u9 ?_ iE⟩
            exact ⟨fun r => absurd c8 (c1 r), fun _ => one0, fun r => absurd c8 r.1, fun r => absurd rfl r, fun r => absurd rfl r, fun r => absurd rfl r.1, c7', Or.inl rfl⟩
          · have eV : B_V_discard fz (nI 1) v = (0, v) := by simp only [B_V_discard, vN_1, mN_1, nO_1, pO_1, ixb_1, vpb_1, om_1, ixb_0, vpb_0, s5b, s13b, s6b, s14b, s3a, s11a, l1, l3, c10, c11, cl, c8, eq_self, one0, if_true, if_false, not_true_eq_false, not_false_eq_true, true_implies, false_implies, implies_true, and_true, true_and]
            have eM : B_M_discard fz (nI 1) m = (0, m) := by simp only [B_M_discard, vN_1, mN_1, nO_1, pO_1, ixb_1, vpb_1, om_1, ixb_0, vpb_0, s5b, s13b, s6b, s14b, s3a, s11a, l1, l3, c10, c11, cl, c8, eq_self, one0, if_true, if_false, not_true_eq_false, not_false_eq_true, true_implies, false_implies, implies_true, and_true, true_and]
            refine ⟨by simp only [P_V_discard, pT_isNode, pT_nodeOf, pT_peerOf, vN_1, mN_1, nO_1, pO_1, ixb_1, vpb_1, om_1, ixb_0, vpb_0, s5b, s13b, s6b, s14b, s3a, s11a, l1, l3, c10, c11, cl, c8, eq_self, one0, if_true, if_false, not_true_eq_false, not_false_eq_true, true_implies, false_implies, implies_true, and_true, true_and], by simp only [P_M_discard, pT_isNodeM, vN_1, mN_1, nO_1, pO_1, ixb_1, vpb_1, om_1, ixb_0, vpb_0, s5b, s13b, s6b, s14b, s3a, s11a, l1, l3, c10, c11, cl, c8, eq_self, one0, if_true, if_false, not_true_eq_false, not_false_eq_true, true_implies, false_implies, implies_true, and_true, true_and], ?_⟩
            rw [eV, eM]
            exact RS.same hJ0 _
        · have eV : B_V_discard fz (nI 1) v = (0, v) := by simp only [B_V_discard, vN_1, mN_1, nO_1, pO_1, ixb_1, vpb_1, om_1, ixb_0, vpb_0, s5b, s13b, s6b, s14b, s3a, s11a, l1, l3, c10, c11, cl, eq_self, one0, if_true, if_false, not_true_eq_false, not_false_eq_true, true_implies, false_implies, implies_true, and_true, true_and]
          have eM : B_M_discard fz (nI 1) m = (0, m) := by simp only [B_M_discard, vN_1, mN_1, nO_1, pO_1, ixb_1, vpb_1, om_1, ixb_0, vpb_0, s5b, s13b, s6b, s14b, s3a, s11a, l1, l3, c10, c11, cl, eq_self, one0, if_true, if_false, not_true_eq_false, not_false_eq_true, true_implies, false_implies, implies_true, and_true, true_and]
          refine ⟨by simp only [P_V_discard, pT_isNode, pT_nodeOf, pT_peerOf, vN_1, mN_1, nO_1, pO_1, ixb_1, vpb_1, om_1, ixb_0, vpb_0, s5b, s13b, s6b, s14b, s3a, s11a, l1, l3, c10, c11, cl, eq_self, one0, if_true, if_false, not_true_eq_false, not_false_eq_true, true_implies, false_implies, implies_true, and_true, true_and], by simp only [P_M_discard, pT_isNodeM, vN_1, mN_1, nO_1, pO_1, ixb_1, vpb_1, om_1, ixb_0, vpb_0, s5b, s13b, s6b, s14b, s3a, s11a, l1, l3, c10, c11, cl, eq_self, one0, if_true, if_false, not_true_eq_false, not_false_eq_true, true_implies, false_implies, implies_true, and_true, true_and], ?_⟩
          rw [eV, eM]
          exact RS.same hJ0 _
      · by_cases cl : lk = 0
        · have eV : B_V_discard fz (nI 1) v = (0, v) := by simp only [B_V_discard, vN_1, mN_1, nO_1, pO_1, ixb_1, vpb_1, om_1, ixb_0, vpb_0, s5b, s13b, s6b, s14b, s3a, s11a, l1, l3, c10, c11, cl, eq_self, one0, if_true, if_false, not_true_eq_false, not_false_eq_true, true_implies, false_implies, implies_true, and_true, true_and]
          have eM : B_M_discard fz (nI 1) m = (0, m) := by simp only [B_M_discard, vN_1, mN_1, nO_1, pO_1, ixb_1, vpb_1, om_1, ixb_0, vpb_0, s5b, s13b, s6b, s14b, s3a, s11a, l1, l3, c10, c11, cl, eq_self, one0, if_true, if_false, not_true_eq_false, not_false_eq_true, true_implies, false_implies, implies_true, and_true, true_and]
          refine ⟨by simp only [P_V_discard, pT_isNode, pT_nodeOf, pT_peerOf, vN_1, mN_1, nO_1, pO_1, ixb_1, vpb_1, om_1, ixb_0, vpb_0, s5b, s13b, s6b, s14b, s3a, s11a, l1, l3, c10, c11, cl, eq_self, one0, if_true, if_false, not_true_eq_false, not_false_eq_true, true_implies, false_implies, implies_true, and_true, true_and], by simp only [P_M_discard, pT_isNodeM, vN_1, mN_1, nO_1, pO_1, ixb_1, vpb_1, om_1, ixb_0, vpb_0, s5b, s13b, s6b, s14b, s3a, s11a, l1, l3, c10, c11, cl, eq_self, one0, if_true, if_false, not_true_eq_false, not_false_eq_true, true_implies, false_implies, implies_true, and_true, true_and], ?_⟩
          rw [eV, eM]
          exact RS.same hJ0 _
        · have eV : B_V_discard fz (nI 1) v = (0, v) := by simp only [B_V_discard, vN_1, mN_1, nO_1, pO_1, ixb_1, vpb_1, om_1, ixb_0, vpb_0, s5b, s13b, s6b, s14b, s3a, s11a, l1, l3, c10, c11, cl, eq_self, one0, if_true, if_false, not_true_eq_false, not_false_eq_true, true_implies, false_implies, implies_true, and_true, true_and]
          have eM : B_M_discard fz (nI 1) m = (0, m) := by simp only [B_M_discard, vN_1, mN_1, nO_1, pO_1, ixb_1, vpb_1, om_1, ixb_0, vpb_0, s5b, s13b, s6b, s14b, s3a, s11a, l1, l3, c10, c11, cl, eq_self, one0, if_true, if_false, not_true_eq_false, not_false_eq_true, true_implies, false_implies, implies_true, and_true, true_and]
          refine ⟨by simp only [P_V_discard, pT_isNode, pT_nodeOf, pT_peerOf, vN_1, mN_1, nO_1, pO_1, ixb_1, vpb_1, om_1, ixb_0, vpb_0, s5b, s13b, s6b, s14b, s3a, s11a, l1, l3, c10, c11, cl, eq_self, one0, if_true, if_false, not_true_eq_false, not_false_eq_true, true_implies, false_implies, implies_true, and_true, true_and], by simp only [P_M_discard, pT_isNodeM, vN_1, mN_1, nO_1, pO_1, ixb_1, vpb_1, om_1, ixb_0, vpb_0, s5b, s13b, s6b, s14b, s3a, s11a, l1, l3, c10, c11, cl, eq_self, one0, if_true, if_false, not_true_eq_false, not_false_eq_true, true_implies, false_implies, implies_true, and_true, true_and], ?_⟩
          rw [eV, eM]
          exact RS.same hJ0 _
