theorem Inv.mono {t t' : Nat} {n : Nat} {own blk ep ft : Nat → Nat} {sc : HH} {lk gr : Int32} {mp un : Nat → Nat → Bool} {q : Nat → List MSG} {wt : Nat → List Nat} {wx : Nat → Bool} {pv : Nat → Nat} (h : Inv t n own blk ep ft sc lk gr mp un q wt wx pv) (ht : t ≤ t') : Inv t' n own blk ep ft sc lk gr mp un q wt wx pv := by
  obtain ⟨h1, ⟨g, g1, g2, g3⟩, h3⟩ := h
  exact ⟨h1, ⟨g, g1, g2, by omega⟩, h3⟩
theorem cp_V {n : Nat} {own blk ep ft : Nat → Nat} {v m : HH} (fz : Nat) (hz : 400 ≤ fz) (hT : GT n own blk ep ft (v 21 5) (v 22) (v 23) (v 24) (v 25) (v 26) (m 27 0) (m 27 11) (m 28) (m 29) (m 30) (m 31) (m 32)) (iT : IT n own blk ep ft) {b : Nat} (hb : b < 2) : P_T_countPending fz (nI b) v ∧ B_T_countPending fz (nI b) v = nI (cnP n own ft b) := by
  have c := cv_countPending fz hz (nI b) v iT.1 hT.1
  refine ⟨c.1, c.2.trans (congrArg nI (cn_congr n 1 (fun w g1 g2 => ?_)))⟩
  obtain ⟨⟨e1, e2, e3, e4, e5⟩, -⟩ := hT.2.2.2.2 w g1 (by omega)
  obtain ⟨o1, o2, o3, o4⟩ := iT.2 w g1 (by omega)
  have k1 : nI (own w) = nI b ↔ own w = b := nI_eq (by omega) (by omega)
  have k2 : nI (ft w) = (1 : Int32) ↔ ft w = 1 := by rw [li1]; exact nI_eq (by omega) (by omega)
  rw [e1, e5]
  simp only [k1, k2]
theorem cp_M {n : Nat} {own blk ep ft : Nat → Nat} {v m : HH} (fz : Nat) (hz : 400 ≤ fz) (hT : GT n own blk ep ft (v 21 5) (v 22) (v 23) (v 24) (v 25) (v 26) (m 27 0) (m 27 11) (m 28) (m 29) (m 30) (m 31) (m 32)) (iT : IT n own blk ep ft) {b f t : Nat} (hb : b < 2) (hf : f < 100) (ht : t < 100) {xf xt : Int32} (ef : xf = nI f) (et : xt = nI t) : P_M_pending fz (nI b) xf xt m ∧ B_M_pending fz (nI b) xf xt m = nI (cn (fun w => decide (own w = b ∧ ft w = 1 ∧ f ≤ blk w ∧ blk w ≤ t)) 1 n) := by
  subst ef
  subst et
  have c := cv_pending fz hz (nI b) (nI f) (nI t) m iT.1 hT.2.1
  refine ⟨c.1, c.2.trans (congrArg nI (cn_congr n 1 (fun w g1 g2 => ?_)))⟩
  obtain ⟨-, f1, f2, f3, f4⟩ := hT.2.2.2.2 w g1 (by omega)
  obtain ⟨o1, o2, o3, o4⟩ := iT.2 w g1 (by omega)
  have k1 : nI (own w) = nI b ↔ own w = b := nI_eq (by omega) (by omega)
  have k2 : nI (ft w) = (1 : Int32) ↔ ft w = 1 := by rw [li1]; exact nI_eq (by omega) (by omega)
  have k3 : nI (blk w) < nI f ↔ blk w < f := nI_ltI (by omega) (by omega)
  have k4 : nI t < nI (blk w) ↔ t < blk w := nI_ltI (by omega) (by omega)
  rw [f1, f2, f4]
  simp only [k1, k2, k3, k4, Nat.not_lt]
  exact decide_eq_decide.mpr ⟨fun r => ⟨r.2.1, r.1, r.2.2⟩, fun r => ⟨r.2.1, r.1, r.2.2⟩⟩
theorem cp_all {n : Nat} {own blk ep ft : Nat → Nat} (iT : IT n own blk ep ft) (b : Nat) : cn (fun w => decide (own w = b ∧ ft w = 1 ∧ 0 ≤ blk w ∧ blk w ≤ 31)) 1 n = cnP n own ft b := by
  refine cn_congr n 1 (fun w g1 g2 => ?_)
  obtain ⟨o1, o2, o3, o4⟩ := iT.2 w g1 (by omega)
  exact decide_eq_decide.mpr ⟨fun r => ⟨r.1, r.2.1⟩, fun r => ⟨r.1, r.2, Nat.zero_le _, by omega⟩⟩
theorem u2_id {h : HH} {i k : Nat} {x : Int32} (hx : x = h i k) : u2 h i k x = h := by
  funext a b
  unfold u2
  by_cases c : a = i ∧ b = k
  · rw [if_pos c, hx, c.1, c.2]
  · rw [if_neg c]
theorem rs_id {c0 a e : Nat} {f : Nat → Int32} {h : HH} (hf : ∀ k, a ≤ k → k < e → f k = h c0 k) : rs c0 a e f h = h := by
  funext c k
  unfold rs
  by_cases q : c = c0 ∧ a ≤ k ∧ k < e
  · rw [if_pos q, hf k q.2.1 q.2.2, q.1]
  · rw [if_neg q]
theorem S_barrier (fz : Nat) (hz : 400 ≤ fz) {t : Nat} (ht : t ≤ 600) {v m : HH} (hJ : J2 t v m) (x : Int32) : P_V_barrier fz x v ∧ P_M_barrier fz x m ∧ RS t (B_V_barrier fz x v) (B_M_barrier fz x m) := by
  rcases ndc x with ⟨h0, h1⟩ | rfl | rfl
  · have eV : B_V_barrier fz x v = (0, v) := by simp only [B_V_barrier, vN_n fz v h0 h1, eq_self, one0, if_true, if_false, not_true_eq_false, not_false_eq_true, true_implies, false_implies, implies_true, and_true, true_and]
    have eM : B_M_barrier fz x m = (0, m) := by simp only [B_M_barrier, mN_n fz m h0 h1, eq_self, one0, if_true, if_false, not_true_eq_false, not_false_eq_true, true_implies, false_implies, implies_true, and_true, true_and]
    refine ⟨by simp only [P_V_barrier, pT_isNode, vN_n fz v h0 h1, eq_self, one0, if_true, if_false, not_true_eq_false, not_false_eq_true, true_implies, false_implies, implies_true, and_true, true_and], by simp only [P_M_barrier, pT_isNodeM, mN_n fz m h0 h1, eq_self, one0, if_true, if_false, not_true_eq_false, not_false_eq_true, true_implies, false_implies, implies_true, and_true, true_and], ?_⟩
    rw [eV, eM]
    exact RS.same hJ _
  · have hJ0 := hJ
    obtain ⟨n, own, blk, ep, ft, sc, lk, gr, mp, un, q, wt, wx, lg, us, pv, hR, hI⟩ := hJ
    have hR' := hR
    obtain ⟨hL, hT, hX, hS0, hM0, hD0, hR0, hA0, hW0, hG0, hU0, hE0, hS1, hM1, hD1, hR1, hA1, hW1, hG1, hU1, hE1⟩ := hR'
    have hI' := hI
    obtain ⟨iT, iG, iN0, iN1, iQ0, iQ1, iR0, iR1, iW, iC, iK, iE⟩ := hI'
    obtain ⟨s0a, s1a, s2a, s3a, s4a, s5a, s6a, s7a, s8a, s9a, s10a, s11a, s12a, s13a, s14a, s15a, s16a⟩ := hS0
    obtain ⟨s0b, s1b, s2b, s3b, s4b, s5b, s6b, s7b, s8b, s9b, s10b, s11b, s12b, s13b, s14b, s15b, s16b⟩ := hS1
    obtain ⟨l1, l2, l3, l4⟩ := hL
    by_cases c10 : sc 10 0 = 0
    · have eV : B_V_barrier fz (nI 0) v = (0, v) := by simp only [B_V_barrier, vN_0, mN_0, nO_0, pO_0, ixb_0, vpb_0, om_0, ixb_1, vpb_1, s5a, s13a, s6a, s14a, c10, eq_self, one0, if_true, if_false, not_true_eq_false, not_false_eq_true, true_implies, false_implies, implies_true, and_true, true_and]
      have eM : B_M_barrier fz (nI 0) m = (0, m) := by simp only [B_M_barrier, vN_0, mN_0, nO_0, pO_0, ixb_0, vpb_0, om_0, ixb_1, vpb_1, s5a, s13a, s6a, s14a, c10, eq_self, one0, if_true, if_false, not_true_eq_false, not_false_eq_true, true_implies, false_implies, implies_true, and_true, true_and]
      refine ⟨by simp only [P_V_barrier, pT_isNode, pT_nodeOf, pT_peerOf, vN_0, mN_0, nO_0, pO_0, ixb_0, vpb_0, om_0, ixb_1, vpb_1, s5a, s13a, s6a, s14a, c10, eq_self, one0, if_true, if_false, not_true_eq_false, not_false_eq_true, true_implies, false_implies, implies_true, and_true, true_and], by simp only [P_M_barrier, pT_isNodeM, vN_0, mN_0, nO_0, pO_0, ixb_0, vpb_0, om_0, ixb_1, vpb_1, s5a, s13a, s6a, s14a, c10, eq_self, one0, if_true, if_false, not_true_eq_false, not_false_eq_true, true_implies, false_implies, implies_true, and_true, true_and], ?_⟩
      rw [eV, eM]
      exact RS.same hJ0 _
    · by_cases c11 : sc 11 0 = 0
      · have eV : B_V_barrier fz (nI 0) v = (0, v) := by simp only [B_V_barrier, vN_0, mN_0, nO_0, pO_0, ixb_0, vpb_0, om_0, ixb_1, vpb_1, s5a, s13a, s6a, s14a, c10, c11, eq_self, one0, if_true, if_false, not_true_eq_false, not_false_eq_true, true_implies, false_implies, implies_true, and_true, true_and]
        have eM : B_M_barrier fz (nI 0) m = (0, m) := by simp only [B_M_barrier, vN_0, mN_0, nO_0, pO_0, ixb_0, vpb_0, om_0, ixb_1, vpb_1, s5a, s13a, s6a, s14a, c10, c11, eq_self, one0, if_true, if_false, not_true_eq_false, not_false_eq_true, true_implies, false_implies, implies_true, and_true, true_and]
        refine ⟨by simp only [P_V_barrier, pT_isNode, pT_nodeOf, pT_peerOf, vN_0, mN_0, nO_0, pO_0, ixb_0, vpb_0, om_0, ixb_1, vpb_1, s5a, s13a, s6a, s14a, c10, c11, eq_self, one0, if_true, if_false, not_true_eq_false, not_false_eq_true, true_implies, false_implies, implies_true, and_true, true_and], by simp only [P_M_barrier, pT_isNodeM, vN_0, mN_0, nO_0, pO_0, ixb_0, vpb_0, om_0, ixb_1, vpb_1, s5a, s13a, s6a, s14a, c10, c11, eq_self, one0, if_true, if_false, not_true_eq_false, not_false_eq_true, true_implies, false_implies, implies_true, and_true, true_and], ?_⟩
        rw [eV, eM]
        exact RS.same hJ0 _
      · have eV : B_V_barrier fz (nI 0) v = (1, u2 v 1 16 1) := by simp only [B_V_barrier, vN_0, mN_0, nO_0, pO_0, ixb_0, vpb_0, om_0, ixb_1, vpb_1, s5a, s13a, s6a, s14a, c10, c11, eq_self, one0, if_true, if_false, not_true_eq_false, not_false_eq_true, true_implies, false_implies, implies_true, and_true, true_and]
        have eM : B_M_barrier fz (nI 0) m = (1, u2 m 46 0 1) := by simp only [B_M_barrier, vN_0, mN_0, nO_0, pO_0, ixb_0, vpb_0, om_0, ixb_1, vpb_1, s5a, s13a, s6a, s14a, c10, c11, eq_self, one0, if_true, if_false, not_true_eq_false, not_false_eq_true, true_implies, false_implies, implies_true, and_true, true_and]
        refine ⟨by simp only [P_V_barrier, pT_isNode, pT_nodeOf, vN_0, mN_0, nO_0, pO_0, ixb_0, vpb_0, om_0, ixb_1, vpb_1, s5a, s13a, s6a, s14a, c10, c11, eq_self, one0, if_true, if_false, not_true_eq_false, not_false_eq_true, true_implies, false_implies, implies_true, and_true, true_and], by simp only [P_M_barrier, pT_isNodeM, vN_0, mN_0, nO_0, pO_0, ixb_0, vpb_0, om_0, ixb_1, vpb_1, s5a, s13a, s6a, s14a, c10, c11, eq_self, one0, if_true, if_false, not_true_eq_false, not_false_eq_true, true_implies, false_implies, implies_true, and_true, true_and], ?_⟩
        rw [eV, eM]
        exact ⟨rfl, n, own, blk, ep, ft, sc, lk, gr, mp, un, q, wt, wx, lg, us, pv, r_bar_0 hR, hI.mono (by omega)⟩
  · have hJ0 := hJ
    obtain ⟨n, own, blk, ep, ft, sc, lk, gr, mp, un, q, wt, wx, lg, us, pv, hR, hI⟩ := hJ
    have hR' := hR
    obtain ⟨hL, hT, hX, hS0, hM0, hD0, hR0, hA0, hW0, hG0, hU0, hE0, hS1, hM1, hD1, hR1, hA1, hW1, hG1, hU1, hE1⟩ := hR'
    have hI' := hI
    obtain ⟨iT, iG, iN0, iN1, iQ0, iQ1, iR0, iR1, iW, iC, iK, iE⟩ := hI'
    obtain ⟨s0a, s1a, s2a, s3a, s4a, s5a, s6a, s7a, s8a, s9a, s10a, s11a, s12a, s13a, s14a, s15a, s16a⟩ := hS0
    obtain ⟨s0b, s1b, s2b, s3b, s4b, s5b, s6b, s7b, s8b, s9b, s10b, s11b, s12b, s13b, s14b, s15b, s16b⟩ := hS1
    obtain ⟨l1, l2, l3, l4⟩ := hL
    by_cases c10 : sc 10 1 = 0
    · have eV : B_V_barrier fz (nI 1) v = (0, v) := by simp only [B_V_barrier, vN_1, mN_1, nO_1, pO_1, ixb_1, vpb_1, om_1, ixb_0, vpb_0, s5b, s13b, s6b, s14b, c10, eq_self, one0, if_true, if_false, not_true_eq_false, not_false_eq_true, true_implies, false_implies, implies_true, and_true, true_and]
      have eM : B_M_barrier fz (nI 1) m = (0, m) := by simp only [B_M_barrier, vN_1, mN_1, nO_1, pO_1, ixb_1, vpb_1, om_1, ixb_0, vpb_0, s5b, s13b, s6b, s14b, c10, eq_self, one0, if_true, if_false, not_true_eq_false, not_false_eq_true, true_implies, false_implies, implies_true, and_true, true_and]
      refine ⟨by simp only [P_V_barrier, pT_isNode, pT_nodeOf, pT_peerOf, vN_1, mN_1, nO_1, pO_1, ixb_1, vpb_1, om_1, ixb_0, vpb_0, s5b, s13b, s6b, s14b, c10, eq_self, one0, if_true, if_false, not_true_eq_false, not_false_eq_true, true_implies, false_implies, implies_true, and_true, true_and], by simp only [P_M_barrier, pT_isNodeM, vN_1, mN_1, nO_1, pO_1, ixb_1, vpb_1, om_1, ixb_0, vpb_0, s5b, s13b, s6b, s14b, c10, eq_self, one0, if_true, if_false, not_true_eq_false, not_false_eq_true, true_implies, false_implies, implies_true, and_true, true_and], ?_⟩
      rw [eV, eM]
      exact RS.same hJ0 _
    · by_cases c11 : sc 11 1 = 0
      · have eV : B_V_barrier fz (nI 1) v = (0, v) := by simp only [B_V_barrier, vN_1, mN_1, nO_1, pO_1, ixb_1, vpb_1, om_1, ixb_0, vpb_0, s5b, s13b, s6b, s14b, c10, c11, eq_self, one0, if_true, if_false, not_true_eq_false, not_false_eq_true, true_implies, false_implies, implies_true, and_true, true_and]
        have eM : B_M_barrier fz (nI 1) m = (0, m) := by simp only [B_M_barrier, vN_1, mN_1, nO_1, pO_1, ixb_1, vpb_1, om_1, ixb_0, vpb_0, s5b, s13b, s6b, s14b, c10, c11, eq_self, one0, if_true, if_false, not_true_eq_false, not_false_eq_true, true_implies, false_implies, implies_true, and_true, true_and]
        refine ⟨by simp only [P_V_barrier, pT_isNode, pT_nodeOf, pT_peerOf, vN_1, mN_1, nO_1, pO_1, ixb_1, vpb_1, om_1, ixb_0, vpb_0, s5b, s13b, s6b, s14b, c10, c11, eq_self, one0, if_true, if_false, not_true_eq_false, not_false_eq_true, true_implies, false_implies, implies_true, and_true, true_and], by simp only [P_M_barrier, pT_isNodeM, vN_1, mN_1, nO_1, pO_1, ixb_1, vpb_1, om_1, ixb_0, vpb_0, s5b, s13b, s6b, s14b, c10, c11, eq_self, one0, if_true, if_false, not_true_eq_false, not_false_eq_true, true_implies, false_implies, implies_true, and_true, true_and], ?_⟩
        rw [eV, eM]
        exact RS.same hJ0 _
      · have eV : B_V_barrier fz (nI 1) v = (1, u2 v 11 16 1) := by simp only [B_V_barrier, vN_1, mN_1, nO_1, pO_1, ixb_1, vpb_1, om_1, ixb_0, vpb_0, s5b, s13b, s6b, s14b, c10, c11, eq_self, one0, if_true, if_false, not_true_eq_false, not_false_eq_true, true_implies, false_implies, implies_true, and_true, true_and]
        have eM : B_M_barrier fz (nI 1) m = (1, u2 m 46 1 1) := by simp only [B_M_barrier, vN_1, mN_1, nO_1, pO_1, ixb_1, vpb_1, om_1, ixb_0, vpb_0, s5b, s13b, s6b, s14b, c10, c11, eq_self, one0, if_true, if_false, not_true_eq_false, not_false_eq_true, true_implies, false_implies, implies_true, and_true, true_and]
        refine ⟨by simp only [P_V_barrier, pT_isNode, pT_nodeOf, vN_1, mN_1, nO_1, pO_1, ixb_1, vpb_1, om_1, ixb_0, vpb_0, s5b, s13b, s6b, s14b, c10, c11, eq_self, one0, if_true, if_false, not_true_eq_false, not_false_eq_true, true_implies, false_implies, implies_true, and_true, true_and], by simp only [P_M_barrier, pT_isNodeM, vN_1, mN_1, nO_1, pO_1, ixb_1, vpb_1, om_1, ixb_0, vpb_0, s5b, s13b, s6b, s14b, c10, c11, eq_self, one0, if_true, if_false, not_true_eq_false, not_false_eq_true, true_implies, false_implies, implies_true, and_true, true_and], ?_⟩
        rw [eV, eM]
        exact ⟨rfl, n, own, blk, ep, ft, sc, lk, gr, mp, un, q, wt, wx, lg, us, pv, r_bar_1 hR, hI.mono (by omega)⟩
theorem S_promote (fz : Nat) (hz : 400 ≤ fz) {t : Nat} (ht : t ≤ 600) {v m : HH} (hJ : J2 t v m) (x : Int32) : P_V_promote fz x v ∧ P_M_promote fz x m ∧ RS t (B_V_promote fz x v) (B_M_promote fz x m) := by
  rcases ndc x with ⟨h0, h1⟩ | rfl | rfl
  · have eV : B_V_promote fz x v = (-1, v) := by simp only [B_V_promote, vN_n fz v h0 h1, eq_self, one0, if_true, if_false, not_true_eq_false, not_false_eq_true, true_implies, false_implies, implies_true, and_true, true_and]
    have eM : B_M_promote fz x m = (-1, m) := by simp only [B_M_promote, mN_n fz m h0 h1, eq_self, one0, if_true, if_false, not_true_eq_false, not_false_eq_true, true_implies, false_implies, implies_true, and_true, true_and]
    refine ⟨by simp only [P_V_promote, pT_isNode, vN_n fz v h0 h1, eq_self, one0, if_true, if_false, not_true_eq_false, not_false_eq_true, true_implies, false_implies, implies_true, and_true, true_and], by simp only [P_M_promote, pT_isNodeM, mN_n fz m h0 h1, eq_self, one0, if_true, if_false, not_true_eq_false, not_false_eq_true, true_implies, false_implies, implies_true, and_true, true_and], ?_⟩
    rw [eV, eM]
    exact RS.same hJ _
  · have hJ0 := hJ
    obtain ⟨n, own, blk, ep, ft, sc, lk, gr, mp, un, q, wt, wx, lg, us, pv, hR, hI⟩ := hJ
    have hR' := hR
    obtain ⟨hL, hT, hX, hS0, hM0, hD0, hR0, hA0, hW0, hG0, hU0, hE0, hS1, hM1, hD1, hR1, hA1, hW1, hG1, hU1, hE1⟩ := hR'
    have hI' := hI
    obtain ⟨iT, iG, iN0, iN1, iQ0, iQ1, iR0, iR1, iW, iC, iK, iE⟩ := hI'
    obtain ⟨s0a, s1a, s2a, s3a, s4a, s5a, s6a, s7a, s8a, s9a, s10a, s11a, s12a, s13a, s14a, s15a, s16a⟩ := hS0
    obtain ⟨s0b, s1b, s2b, s3b, s4b, s5b, s6b, s7b, s8b, s9b, s10b, s11b, s12b, s13b, s14b, s15b, s16b⟩ := hS1
    obtain ⟨l1, l2, l3, l4⟩ := hL
    by_cases c10 : sc 10 0 = 0
    · have eV : B_V_promote fz (nI 0) v = (-2, v) := by simp only [B_V_promote, vN_0, mN_0, nO_0, pO_0, ixb_0, vpb_0, om_0, ixb_1, vpb_1, s3a, s11a, s5a, s13a, s6a, s14a, s6b, s14b, l1, l3, c10, eq_self, one0, if_true, if_false, not_true_eq_false, not_false_eq_true, true_implies, false_implies, implies_true, and_true, true_and]
      have eM : B_M_promote fz (nI 0) m = (-2, m) := by simp only [B_M_promote, vN_0, mN_0, nO_0, pO_0, ixb_0, vpb_0, om_0, ixb_1, vpb_1, s3a, s11a, s5a, s13a, s6a, s14a, s6b, s14b, l1, l3, c10, eq_self, one0, if_true, if_false, not_true_eq_false, not_false_eq_true, true_implies, false_implies, implies_true, and_true, true_and]
      refine ⟨by simp only [P_V_promote, pT_isNode, pT_nodeOf, pT_peerOf, vN_0, mN_0, nO_0, pO_0, ixb_0, vpb_0, om_0, ixb_1, vpb_1, s3a, s11a, s5a, s13a, s6a, s14a, s6b, s14b, l1, l3, c10, P_V_promote_56, eq_self, one0, if_true, if_false, not_true_eq_false, not_false_eq_true, true_implies, false_implies, implies_true, and_true, true_and], by simp only [P_M_promote, pT_isNodeM, vN_0, mN_0, nO_0, pO_0, ixb_0, vpb_0, om_0, ixb_1, vpb_1, s3a, s11a, s5a, s13a, s6a, s14a, s6b, s14b, l1, l3, c10, P_M_promote_54, eq_self, one0, if_true, if_false, not_true_eq_false, not_false_eq_true, true_implies, false_implies, implies_true, and_true, true_and], ?_⟩
      rw [eV, eM]
      exact RS.same hJ0 _
    · by_cases c8 : sc 8 0 = 0
      · by_cases cl : lk = 0
        · have eV : B_V_promote fz (nI 0) v = (0, u2 v 1 11 1) := by simp only [B_V_promote, B_V_promote_56, vN_0, mN_0, nO_0, pO_0, ixb_0, vpb_0, om_0, ixb_1, vpb_1, s3a, s11a, s5a, s13a, s6a, s14a, s6b, s14b, l1, l3, c10, c8, cl, eq_self, one0, if_true, if_false, not_true_eq_false, not_false_eq_true, true_implies, false_implies, implies_true, and_true, true_and]
          have eM : B_M_promote fz (nI 0) m = (0, u2 m 43 0 1) := by simp only [B_M_promote, B_M_promote_54, vN_0, mN_0, nO_0, pO_0, ixb_0, vpb_0, om_0, ixb_1, vpb_1, s3a, s11a, s5a, s13a, s6a, s14a, s6b, s14b, l1, l3, c10, c8, cl, eq_self, one0, if_true, if_false, not_true_eq_false, not_false_eq_true, true_implies, false_implies, implies_true, and_true, true_and]
          refine ⟨by simp only [P_V_promote, P_V_promote_56, pT_isNode, pT_nodeOf, pT_peerOf, vN_0, mN_0, nO_0, pO_0, ixb_0, vpb_0, om_0, ixb_1, vpb_1, s3a, s11a, s5a, s13a, s6a, s14a, s6b, s14b, l1, l3, c10, c8, cl, eq_self, one0, if_true, if_false, not_true_eq_false, not_false_eq_true, true_implies, false_implies, implies_true, and_true, true_and], by simp only [P_M_promote, P_M_promote_54, pT_isNodeM, vN_0, mN_0, nO_0, pO_0, ixb_0, vpb_0, om_0, ixb_1, vpb_1, s3a, s11a, s5a, s13a, s6a, s14a, s6b, s14b, l1, l3, c10, c8, cl, eq_self, one0, if_true, if_false, not_true_eq_false, not_false_eq_true, true_implies, false_implies, implies_true, and_true, true_and], ?_⟩
          rw [eV, eM]
          exact ⟨rfl, n, own, blk, ep, ft, u2 sc 11 0 1, lk, gr, mp, un, q, wt, wx, lg, us, pv, r_set_11_0 hR 1, hI.mono (by omega)⟩
        · by_cases c11 : sc 11 1 = 0
          · have eV : B_V_promote fz (nI 0) v = (0, u2 v 1 11 1) := by simp only [B_V_promote, B_V_promote_56, vN_0, mN_0, nO_0, pO_0, ixb_0, vpb_0, om_0, ixb_1, vpb_1, s3a, s11a, s5a, s13a, s6a, s14a, s6b, s14b, l1, l3, c10, c8, cl, c11, eq_self, one0, if_true, if_false, not_true_eq_false, not_false_eq_true, true_implies, false_implies, implies_true, and_true, true_and]
            have eM : B_M_promote fz (nI 0) m = (0, u2 m 43 0 1) := by simp only [B_M_promote, B_M_promote_54, vN_0, mN_0, nO_0, pO_0, ixb_0, vpb_0, om_0, ixb_1, vpb_1, s3a, s11a, s5a, s13a, s6a, s14a, s6b, s14b, l1, l3, c10, c8, cl, c11, eq_self, one0, if_true, if_false, not_true_eq_false, not_false_eq_true, true_implies, false_implies, implies_true, and_true, true_and]
            refine ⟨by simp only [P_V_promote, P_V_promote_56, pT_isNode, pT_nodeOf, pT_peerOf, vN_0, mN_0, nO_0, pO_0, ixb_0, vpb_0, om_0, ixb_1, vpb_1, s3a, s11a, s5a, s13a, s6a, s14a, s6b, s14b, l1, l3, c10, c8, cl, c11, eq_self, one0, if_true, if_false, not_true_eq_false, not_false_eq_true, true_implies, false_implies, implies_true, and_true, true_and], by simp only [P_M_promote, P_M_promote_54, pT_isNodeM, vN_0, mN_0, nO_0, pO_0, ixb_0, vpb_0, om_0, ixb_1, vpb_1, s3a, s11a, s5a, s13a, s6a, s14a, s6b, s14b, l1, l3, c10, c8, cl, c11, eq_self, one0, if_true, if_false, not_true_eq_false, not_false_eq_true, true_implies, false_implies, implies_true, and_true, true_and], ?_⟩
            rw [eV, eM]
            exact ⟨rfl, n, own, blk, ep, ft, u2 sc 11 0 1, lk, gr, mp, un, q, wt, wx, lg, us, pv, r_set_11_0 hR 1, hI.mono (by omega)⟩
          · have eV : B_V_promote fz (nI 0) v = (-7, v) := by simp only [B_V_promote, vN_0, mN_0, nO_0, pO_0, ixb_0, vpb_0, om_0, ixb_1, vpb_1, s3a, s11a, s5a, s13a, s6a, s14a, s6b, s14b, l1, l3, c10, c8, cl, c11, eq_self, one0, if_true, if_false, not_true_eq_false, not_false_eq_true, true_implies, false_implies, implies_true, and_true, true_and]
            have eM : B_M_promote fz (nI 0) m = (-7, m) := by simp only [B_M_promote, vN_0, mN_0, nO_0, pO_0, ixb_0, vpb_0, om_0, ixb_1, vpb_1, s3a, s11a, s5a, s13a, s6a, s14a, s6b, s14b, l1, l3, c10, c8, cl, c11, eq_self, one0, if_true, if_false, not_true_eq_false, not_false_eq_true, true_implies, false_implies, implies_true, and_true, true_and]
            refine ⟨by simp only [P_V_promote, pT_isNode, pT_nodeOf, pT_peerOf, vN_0, mN_0, nO_0, pO_0, ixb_0, vpb_0, om_0, ixb_1, vpb_1, s3a, s11a, s5a, s13a, s6a, s14a, s6b, s14b, l1, l3, c10, c8, cl, c11, P_V_promote_56, eq_self, one0, if_true, if_false, not_true_eq_false, not_false_eq_true, true_implies, false_implies, implies_true, and_true, true_and], by simp only [P_M_promote, pT_isNodeM, vN_0, mN_0, nO_0, pO_0, ixb_0, vpb_0, om_0, ixb_1, vpb_1, s3a, s11a, s5a, s13a, s6a, s14a, s6b, s14b, l1, l3, c10, c8, cl, c11, P_M_promote_54, eq_self, one0, if_true, if_false, not_true_eq_false, not_false_eq_true, true_implies, false_implies, implies_true, and_true, true_and], ?_⟩
            rw [eV, eM]
            exact RS.same hJ0 _
      · have eV : B_V_promote fz (nI 0) v = (-6, v) := by simp only [B_V_promote, vN_0, mN_0, nO_0, pO_0, ixb_0, vpb_0, om_0, ixb_1, vpb_1, s3a, s11a, s5a, s13a, s6a, s14a, s6b, s14b, l1, l3, c10, c8, eq_self, one0, if_true, if_false, not_true_eq_false, not_false_eq_true, true_implies, false_implies, implies_true, and_true, true_and]
        have eM : B_M_promote fz (nI 0) m = (-6, m) := by simp only [B_M_promote, vN_0, mN_0, nO_0, pO_0, ixb_0, vpb_0, om_0, ixb_1, vpb_1, s3a, s11a, s5a, s13a, s6a, s14a, s6b, s14b, l1, l3, c10, c8, eq_self, one0, if_true, if_false, not_true_eq_false, not_false_eq_true, true_implies, false_implies, implies_true, and_true, true_and]
        refine ⟨by simp only [P_V_promote, pT_isNode, pT_nodeOf, pT_peerOf, vN_0, mN_0, nO_0, pO_0, ixb_0, vpb_0, om_0, ixb_1, vpb_1, s3a, s11a, s5a, s13a, s6a, s14a, s6b, s14b, l1, l3, c10, c8, P_V_promote_56, eq_self, one0, if_true, if_false, not_true_eq_false, not_false_eq_true, true_implies, false_implies, implies_true, and_true, true_and], by simp only [P_M_promote, pT_isNodeM, vN_0, mN_0, nO_0, pO_0, ixb_0, vpb_0, om_0, ixb_1, vpb_1, s3a, s11a, s5a, s13a, s6a, s14a, s6b, s14b, l1, l3, c10, c8, P_M_promote_54, eq_self, one0, if_true, if_false, not_true_eq_false, not_false_eq_true, true_implies, false_implies, implies_true, and_true, true_and], ?_⟩
        rw [eV, eM]
        exact RS.same hJ0 _
  · have hJ0 := hJ
    obtain ⟨n, own, blk, ep, ft, sc, lk, gr, mp, un, q, wt, wx, lg, us, pv, hR, hI⟩ := hJ
    have hR' := hR
    obtain ⟨hL, hT, hX, hS0, hM0, hD0, hR0, hA0, hW0, hG0, hU0, hE0, hS1, hM1, hD1, hR1, hA1, hW1, hG1, hU1, hE1⟩ := hR'
    have hI' := hI
    obtain ⟨iT, iG, iN0, iN1, iQ0, iQ1, iR0, iR1, iW, iC, iK, iE⟩ := hI'
    obtain ⟨s0a, s1a, s2a, s3a, s4a, s5a, s6a, s7a, s8a, s9a, s10a, s11a, s12a, s13a, s14a, s15a, s16a⟩ := hS0
    obtain ⟨s0b, s1b, s2b, s3b, s4b, s5b, s6b, s7b, s8b, s9b, s10b, s11b, s12b, s13b, s14b, s15b, s16b⟩ := hS1
    obtain ⟨l1, l2, l3, l4⟩ := hL
    by_cases c10 : sc 10 1 = 0
    · have eV : B_V_promote fz (nI 1) v = (-2, v) := by simp only [B_V_promote, vN_1, mN_1, nO_1, pO_1, ixb_1, vpb_1, om_1, ixb_0, vpb_0, s3b, s11b, s5b, s13b, s6b, s14b, s6a, s14a, l1, l3, c10, eq_self, one0, if_true, if_false, not_true_eq_false, not_false_eq_true, true_implies, false_implies, implies_true, and_true, true_and]
      have eM : B_M_promote fz (nI 1) m = (-2, m) := by simp only [B_M_promote, vN_1, mN_1, nO_1, pO_1, ixb_1, vpb_1, om_1, ixb_0, vpb_0, s3b, s11b, s5b, s13b, s6b, s14b, s6a, s14a, l1, l3, c10, eq_self, one0, if_true, if_false, not_true_eq_false, not_false_eq_true, true_implies, false_implies, implies_true, and_true, true_and]
      refine ⟨by simp only [P_V_promote, pT_isNode, pT_nodeOf, pT_peerOf, vN_1, mN_1, nO_1, pO_1, ixb_1, vpb_1, om_1, ixb_0, vpb_0, s3b, s11b, s5b, s13b, s6b, s14b, s6a, s14a, l1, l3, c10, P_V_promote_56, eq_self, one0, if_true, if_false, not_true_eq_false, not_false_eq_true, true_implies, false_implies, implies_true, and_true, true_and], by simp only [P_M_promote, pT_isNodeM, vN_1, mN_1, nO_1, pO_1, ixb_1, vpb_1, om_1, ixb_0, vpb_0, s3b, s11b, s5b, s13b, s6b, s14b, s6a, s14a, l1, l3, c10, P_M_promote_54, eq_self, one0, if_true, if_false, not_true_eq_false, not_false_eq_true, true_implies, false_implies, implies_true, and_true, true_and], ?_⟩
      rw [eV, eM]
      exact RS.same hJ0 _
    · by_cases c8 : sc 8 1 = 0
      · by_cases cl : lk = 0
        · have eV : B_V_promote fz (nI 1) v = (0, u2 v 11 11 1) := by simp only [B_V_promote, B_V_promote_56, vN_1, mN_1, nO_1, pO_1, ixb_1, vpb_1, om_1, ixb_0, vpb_0, s3b, s11b, s5b, s13b, s6b, s14b, s6a, s14a, l1, l3, c10, c8, cl, eq_self, one0, if_true, if_false, not_true_eq_false, not_false_eq_true, true_implies, false_implies, implies_true, and_true, true_and]
          have eM : B_M_promote fz (nI 1) m = (0, u2 m 43 1 1) := by simp only [B_M_promote, B_M_promote_54, vN_1, mN_1, nO_1, pO_1, ixb_1, vpb_1, om_1, ixb_0, vpb_0, s3b, s11b, s5b, s13b, s6b, s14b, s6a, s14a, l1, l3, c10, c8, cl, eq_self, one0, if_true, if_false, not_true_eq_false, not_false_eq_true, true_implies, false_implies, implies_true, and_true, true_and]
          refine ⟨by simp only [P_V_promote, P_V_promote_56, pT_isNode, pT_nodeOf, pT_peerOf, vN_1, mN_1, nO_1, pO_1, ixb_1, vpb_1, om_1, ixb_0, vpb_0, s3b, s11b, s5b, s13b, s6b, s14b, s6a, s14a, l1, l3, c10, c8, cl, eq_self, one0, if_true, if_false, not_true_eq_false, not_false_eq_true, true_implies, false_implies, implies_true, and_true, true_and], by simp only [P_M_promote, P_M_promote_54, pT_isNodeM, vN_1, mN_1, nO_1, pO_1, ixb_1, vpb_1, om_1, ixb_0, vpb_0, s3b, s11b, s5b, s13b, s6b, s14b, s6a, s14a, l1, l3, c10, c8, cl, eq_self, one0, if_true, if_false, not_true_eq_false, not_false_eq_true, true_implies, false_implies, implies_true, and_true, true_and], ?_⟩
          rw [eV, eM]
          exact ⟨rfl, n, own, blk, ep, ft, u2 sc 11 1 1, lk, gr, mp, un, q, wt, wx, lg, us, pv, r_set_11_1 hR 1, hI.mono (by omega)⟩
        · by_cases c11 : sc 11 0 = 0
          · have eV : B_V_promote fz (nI 1) v = (0, u2 v 11 11 1) := by simp only [B_V_promote, B_V_promote_56, vN_1, mN_1, nO_1, pO_1, ixb_1, vpb_1, om_1, ixb_0, vpb_0, s3b, s11b, s5b, s13b, s6b, s14b, s6a, s14a, l1, l3, c10, c8, cl, c11, eq_self, one0, if_true, if_false, not_true_eq_false, not_false_eq_true, true_implies, false_implies, implies_true, and_true, true_and]
            have eM : B_M_promote fz (nI 1) m = (0, u2 m 43 1 1) := by simp only [B_M_promote, B_M_promote_54, vN_1, mN_1, nO_1, pO_1, ixb_1, vpb_1, om_1, ixb_0, vpb_0, s3b, s11b, s5b, s13b, s6b, s14b, s6a, s14a, l1, l3, c10, c8, cl, c11, eq_self, one0, if_true, if_false, not_true_eq_false, not_false_eq_true, true_implies, false_implies, implies_true, and_true, true_and]
            refine ⟨by simp only [P_V_promote, P_V_promote_56, pT_isNode, pT_nodeOf, pT_peerOf, vN_1, mN_1, nO_1, pO_1, ixb_1, vpb_1, om_1, ixb_0, vpb_0, s3b, s11b, s5b, s13b, s6b, s14b, s6a, s14a, l1, l3, c10, c8, cl, c11, eq_self, one0, if_true, if_false, not_true_eq_false, not_false_eq_true, true_implies, false_implies, implies_true, and_true, true_and], by simp only [P_M_promote, P_M_promote_54, pT_isNodeM, vN_1, mN_1, nO_1, pO_1, ixb_1, vpb_1, om_1, ixb_0, vpb_0, s3b, s11b, s5b, s13b, s6b, s14b, s6a, s14a, l1, l3, c10, c8, cl, c11, eq_self, one0, if_true, if_false, not_true_eq_false, not_false_eq_true, true_implies, false_implies, implies_true, and_true, true_and], ?_⟩
            rw [eV, eM]
            exact ⟨rfl, n, own, blk, ep, ft, u2 sc 11 1 1, lk, gr, mp, un, q, wt, wx, lg, us, pv, r_set_11_1 hR 1, hI.mono (by omega)⟩
          · have eV : B_V_promote fz (nI 1) v = (-7, v) := by simp only [B_V_promote, vN_1, mN_1, nO_1, pO_1, ixb_1, vpb_1, om_1, ixb_0, vpb_0, s3b, s11b, s5b, s13b, s6b, s14b, s6a, s14a, l1, l3, c10, c8, cl, c11, eq_self, one0, if_true, if_false, not_true_eq_false, not_false_eq_true, true_implies, false_implies, implies_true, and_true, true_and]
            have eM : B_M_promote fz (nI 1) m = (-7, m) := by simp only [B_M_promote, vN_1, mN_1, nO_1, pO_1, ixb_1, vpb_1, om_1, ixb_0, vpb_0, s3b, s11b, s5b, s13b, s6b, s14b, s6a, s14a, l1, l3, c10, c8, cl, c11, eq_self, one0, if_true, if_false, not_true_eq_false, not_false_eq_true, true_implies, false_implies, implies_true, and_true, true_and]
            refine ⟨by simp only [P_V_promote, pT_isNode, pT_nodeOf, pT_peerOf, vN_1, mN_1, nO_1, pO_1, ixb_1, vpb_1, om_1, ixb_0, vpb_0, s3b, s11b, s5b, s13b, s6b, s14b, s6a, s14a, l1, l3, c10, c8, cl, c11, P_V_promote_56, eq_self, one0, if_true, if_false, not_true_eq_false, not_false_eq_true, true_implies, false_implies, implies_true, and_true, true_and], by simp only [P_M_promote, pT_isNodeM, vN_1, mN_1, nO_1, pO_1, ixb_1, vpb_1, om_1, ixb_0, vpb_0, s3b, s11b, s5b, s13b, s6b, s14b, s6a, s14a, l1, l3, c10, c8, cl, c11, P_M_promote_54, eq_self, one0, if_true, if_false, not_true_eq_false, not_false_eq_true, true_implies, false_implies, implies_true, and_true, true_and], ?_⟩
            rw [eV, eM]
            exact RS.same hJ0 _
      · have eV : B_V_promote fz (nI 1) v = (-6, v) := by simp only [B_V_promote, vN_1, mN_1, nO_1, pO_1, ixb_1, vpb_1, om_1, ixb_0, vpb_0, s3b, s11b, s5b, s13b, s6b, s14b, s6a, s14a, l1, l3, c10, c8, eq_self, one0, if_true, if_false, not_true_eq_false, not_false_eq_true, true_implies, false_implies, implies_true, and_true, true_and]
        have eM : B_M_promote fz (nI 1) m = (-6, m) := by simp only [B_M_promote, vN_1, mN_1, nO_1, pO_1, ixb_1, vpb_1, om_1, ixb_0, vpb_0, s3b, s11b, s5b, s13b, s6b, s14b, s6a, s14a, l1, l3, c10, c8, eq_self, one0, if_true, if_false, not_true_eq_false, not_false_eq_true, true_implies, false_implies, implies_true, and_true, true_and]
        refine ⟨by simp only [P_V_promote, pT_isNode, pT_nodeOf, pT_peerOf, vN_1, mN_1, nO_1, pO_1, ixb_1, vpb_1, om_1, ixb_0, vpb_0, s3b, s11b, s5b, s13b, s6b, s14b, s6a, s14a, l1, l3, c10, c8, P_V_promote_56, eq_self, one0, if_true, if_false, not_true_eq_false, not_false_eq_true, true_implies, false_implies, implies_true, and_true, true_and], by simp only [P_M_promote, pT_isNodeM, vN_1, mN_1, nO_1, pO_1, ixb_1, vpb_1, om_1, ixb_0, vpb_0, s3b, s11b, s5b, s13b, s6b, s14b, s6a, s14a, l1, l3, c10, c8, P_M_promote_54, eq_self, one0, if_true, if_false, not_true_eq_false, not_false_eq_true, true_implies, false_implies, implies_true, and_true, true_and], ?_⟩
        rw [eV, eM]
        exact RS.same hJ0 _
theorem S_demote (fz : Nat) (hz : 400 ≤ fz) {t : Nat} (ht : t ≤ 600) {v m : HH} (hJ : J2 t v m) (x : Int32) : P_V_demote fz x v ∧ P_M_demote fz x m ∧ RS t (B_V_demote fz x v) (B_M_demote fz x m) := by
  rcases ndc x with ⟨h0, h1⟩ | rfl | rfl
  · have eV : B_V_demote fz x v = (-1, v) := by simp only [B_V_demote, vN_n fz v h0 h1, eq_self, one0, if_true, if_false, not_true_eq_false, not_false_eq_true, true_implies, false_implies, implies_true, and_true, true_and]
    have eM : B_M_demote fz x m = (-1, m) := by simp only [B_M_demote, mN_n fz m h0 h1, eq_self, one0, if_true, if_false, not_true_eq_false, not_false_eq_true, true_implies, false_implies, implies_true, and_true, true_and]
    refine ⟨by simp only [P_V_demote, pT_isNode, vN_n fz v h0 h1, eq_self, one0, if_true, if_false, not_true_eq_false, not_false_eq_true, true_implies, false_implies, implies_true, and_true, true_and], by simp only [P_M_demote, pT_isNodeM, mN_n fz m h0 h1, eq_self, one0, if_true, if_false, not_true_eq_false, not_false_eq_true, true_implies, false_implies, implies_true, and_true, true_and], ?_⟩
    rw [eV, eM]
    exact RS.same hJ _
  · have hJ0 := hJ
    obtain ⟨n, own, blk, ep, ft, sc, lk, gr, mp, un, q, wt, wx, lg, us, pv, hR, hI⟩ := hJ
    have hR' := hR
    obtain ⟨hL, hT, hX, hS0, hM0, hD0, hR0, hA0, hW0, hG0, hU0, hE0, hS1, hM1, hD1, hR1, hA1, hW1, hG1, hU1, hE1⟩ := hR'
    have hI' := hI
    obtain ⟨iT, iG, iN0, iN1, iQ0, iQ1, iR0, iR1, iW, iC, iK, iE⟩ := hI'
    obtain ⟨s0a, s1a, s2a, s3a, s4a, s5a, s6a, s7a, s8a, s9a, s10a, s11a, s12a, s13a, s14a, s15a, s16a⟩ := hS0
    obtain ⟨s0b, s1b, s2b, s3b, s4b, s5b, s6b, s7b, s8b, s9b, s10b, s11b, s12b, s13b, s14b, s15b, s16b⟩ := hS1
    obtain ⟨l1, l2, l3, l4⟩ := hL
    obtain ⟨pV, bV⟩ := cp_V fz hz hT iT (b := 0) (by decide)
    obtain ⟨pM, bM⟩ := cp_M fz hz hT iT (b := 0) (f := 0) (t := 31) (by decide) (by decide) (by decide) li0 li31
    rw [cp_all iT] at bM
    by_cases c10 : sc 10 0 = 0
    · have eV : B_V_demote fz (nI 0) v = (-2, v) := by simp only [B_V_demote, vN_0, mN_0, nO_0, pO_0, ixb_0, vpb_0, om_0, ixb_1, vpb_1, s5a, s13a, s6a, s14a, c10, eq_self, one0, if_true, if_false, not_true_eq_false, not_false_eq_true, true_implies, false_implies, implies_true, and_true, true_and]
      have eM : B_M_demote fz (nI 0) m = (-2, m) := by simp only [B_M_demote, vN_0, mN_0, nO_0, pO_0, ixb_0, vpb_0, om_0, ixb_1, vpb_1, s5a, s13a, s6a, s14a, c10, eq_self, one0, if_true, if_false, not_true_eq_false, not_false_eq_true, true_implies, false_implies, implies_true, and_true, true_and]
      refine ⟨by simp only [P_V_demote, pT_isNode, pT_nodeOf, pT_peerOf, vN_0, mN_0, nO_0, pO_0, ixb_0, vpb_0, om_0, ixb_1, vpb_1, s5a, s13a, s6a, s14a, c10, eq_self, one0, if_true, if_false, not_true_eq_false, not_false_eq_true, true_implies, false_implies, implies_true, and_true, true_and], by simp only [P_M_demote, pT_isNodeM, vN_0, mN_0, nO_0, pO_0, ixb_0, vpb_0, om_0, ixb_1, vpb_1, s5a, s13a, s6a, s14a, c10, eq_self, one0, if_true, if_false, not_true_eq_false, not_false_eq_true, true_implies, false_implies, implies_true, and_true, true_and], ?_⟩
      rw [eV, eM]
      exact RS.same hJ0 _
    · by_cases c11 : sc 11 0 = 0
      · have eV : B_V_demote fz (nI 0) v = (-3, v) := by simp only [B_V_demote, vN_0, mN_0, nO_0, pO_0, ixb_0, vpb_0, om_0, ixb_1, vpb_1, s5a, s13a, s6a, s14a, c10, c11, eq_self, one0, if_true, if_false, not_true_eq_false, not_false_eq_true, true_implies, false_implies, implies_true, and_true, true_and]
        have eM : B_M_demote fz (nI 0) m = (-3, m) := by simp only [B_M_demote, vN_0, mN_0, nO_0, pO_0, ixb_0, vpb_0, om_0, ixb_1, vpb_1, s5a, s13a, s6a, s14a, c10, c11, eq_self, one0, if_true, if_false, not_true_eq_false, not_false_eq_true, true_implies, false_implies, implies_true, and_true, true_and]
        refine ⟨by simp only [P_V_demote, pT_isNode, pT_nodeOf, pT_peerOf, vN_0, mN_0, nO_0, pO_0, ixb_0, vpb_0, om_0, ixb_1, vpb_1, s5a, s13a, s6a, s14a, c10, c11, eq_self, one0, if_true, if_false, not_true_eq_false, not_false_eq_true, true_implies, false_implies, implies_true, and_true, true_and], by simp only [P_M_demote, pT_isNodeM, vN_0, mN_0, nO_0, pO_0, ixb_0, vpb_0, om_0, ixb_1, vpb_1, s5a, s13a, s6a, s14a, c10, c11, eq_self, one0, if_true, if_false, not_true_eq_false, not_false_eq_true, true_implies, false_implies, implies_true, and_true, true_and], ?_⟩
        rw [eV, eM]
        exact RS.same hJ0 _
      · by_cases cp : nI (cnP n own ft 0) ≤ 0
        · have eV : B_V_demote fz (nI 0) v = (0, u2 v 1 11 0) := by simp only [B_V_demote, vN_0, mN_0, nO_0, pO_0, ixb_0, vpb_0, om_0, ixb_1, vpb_1, s5a, s13a, s6a, s14a, c10, c11, bV, cp, eq_self, one0, if_true, if_false, not_true_eq_false, not_false_eq_true, true_implies, false_implies, implies_true, and_true, true_and]
          have eM : B_M_demote fz (nI 0) m = (0, u2 m 43 0 0) := by simp only [B_M_demote, vN_0, mN_0, nO_0, pO_0, ixb_0, vpb_0, om_0, ixb_1, vpb_1, s5a, s13a, s6a, s14a, c10, c11, bM, cp, eq_self, one0, if_true, if_false, not_true_eq_false, not_false_eq_true, true_implies, false_implies, implies_true, and_true, true_and]
          refine ⟨by simp only [P_V_demote, pT_isNode, pT_nodeOf, vN_0, mN_0, nO_0, pO_0, ixb_0, vpb_0, om_0, ixb_1, vpb_1, s5a, s13a, s6a, s14a, c10, c11, pV, eq_self, one0, if_true, if_false, not_true_eq_false, not_false_eq_true, true_implies, false_implies, implies_true, and_true, true_and], by simp only [P_M_demote, pT_isNodeM, vN_0, mN_0, nO_0, pO_0, ixb_0, vpb_0, om_0, ixb_1, vpb_1, s5a, s13a, s6a, s14a, c10, c11, pM, eq_self, one0, if_true, if_false, not_true_eq_false, not_false_eq_true, true_implies, false_implies, implies_true, and_true, true_and], ?_⟩
          rw [eV, eM]
          exact ⟨rfl, n, own, blk, ep, ft, u2 sc 11 0 0, lk, gr, mp, un, q, wt, wx, lg, us, pv, r_set_11_0 hR 0, hI.mono (by omega)⟩
        · have eV : B_V_demote fz (nI 0) v = (-5, v) := by simp only [B_V_demote, vN_0, mN_0, nO_0, pO_0, ixb_0, vpb_0, om_0, ixb_1, vpb_1, s5a, s13a, s6a, s14a, c10, c11, bV, bM, cp, pV, pM, eq_self, one0, if_true, if_false, not_true_eq_false, not_false_eq_true, true_implies, false_implies, implies_true, and_true, true_and]
          have eM : B_M_demote fz (nI 0) m = (-5, m) := by simp only [B_M_demote, vN_0, mN_0, nO_0, pO_0, ixb_0, vpb_0, om_0, ixb_1, vpb_1, s5a, s13a, s6a, s14a, c10, c11, bV, bM, cp, pV, pM, eq_self, one0, if_true, if_false, not_true_eq_false, not_false_eq_true, true_implies, false_implies, implies_true, and_true, true_and]
          refine ⟨by simp only [P_V_demote, pT_isNode, pT_nodeOf, pT_peerOf, vN_0, mN_0, nO_0, pO_0, ixb_0, vpb_0, om_0, ixb_1, vpb_1, s5a, s13a, s6a, s14a, c10, c11, bV, bM, cp, pV, pM, eq_self, one0, if_true, if_false, not_true_eq_false, not_false_eq_true, true_implies, false_implies, implies_true, and_true, true_and], by simp only [P_M_demote, pT_isNodeM, vN_0, mN_0, nO_0, pO_0, ixb_0, vpb_0, om_0, ixb_1, vpb_1, s5a, s13a, s6a, s14a, c10, c11, bV, bM, cp, pV, pM, eq_self, one0, if_true, if_false, not_true_eq_false, not_false_eq_true, true_implies, false_implies, implies_true, and_true, true_and], ?_⟩
          rw [eV, eM]
          exact RS.same hJ0 _
  · have hJ0 := hJ
    obtain ⟨n, own, blk, ep, ft, sc, lk, gr, mp, un, q, wt, wx, lg, us, pv, hR, hI⟩ := hJ
    have hR' := hR
    obtain ⟨hL, hT, hX, hS0, hM0, hD0, hR0, hA0, hW0, hG0, hU0, hE0, hS1, hM1, hD1, hR1, hA1, hW1, hG1, hU1, hE1⟩ := hR'
    have hI' := hI
    obtain ⟨iT, iG, iN0, iN1, iQ0, iQ1, iR0, iR1, iW, iC, iK, iE⟩ := hI'
    obtain ⟨s0a, s1a, s2a, s3a, s4a, s5a, s6a, s7a, s8a, s9a, s10a, s11a, s12a, s13a, s14a, s15a, s16a⟩ := hS0
    obtain ⟨s0b, s1b, s2b, s3b, s4b, s5b, s6b, s7b, s8b, s9b, s10b, s11b, s12b, s13b, s14b, s15b, s16b⟩ := hS1
    obtain ⟨l1, l2, l3, l4⟩ := hL
    obtain ⟨pV, bV⟩ := cp_V fz hz hT iT (b := 1) (by decide)
    obtain ⟨pM, bM⟩ := cp_M fz hz hT iT (b := 1) (f := 0) (t := 31) (by decide) (by decide) (by decide) li0 li31
    rw [cp_all iT] at bM
    by_cases c10 : sc 10 1 = 0
    · have eV : B_V_demote fz (nI 1) v = (-2, v) := by simp only [B_V_demote, vN_1, mN_1, nO_1, pO_1, ixb_1, vpb_1, om_1, ixb_0, vpb_0, s5b, s13b, s6b, s14b, c10, eq_self, one0, if_true, if_false, not_true_eq_false, not_false_eq_true, true_implies, false_implies, implies_true, and_true, true_and]
      have eM : B_M_demote fz (nI 1) m = (-2, m) := by simp only [B_M_demote, vN_1, mN_1, nO_1, pO_1, ixb_1, vpb_1, om_1, ixb_0, vpb_0, s5b, s13b, s6b, s14b, c10, eq_self, one0, if_true, if_false, not_true_eq_false, not_false_eq_true, true_implies, false_implies, implies_true, and_true, true_and]
      refine ⟨by simp only [P_V_demote, pT_isNode, pT_nodeOf, pT_peerOf, vN_1, mN_1, nO_1, pO_1, ixb_1, vpb_1, om_1, ixb_0, vpb_0, s5b, s13b, s6b, s14b, c10, eq_self, one0, if_true, if_false, not_true_eq_false, not_false_eq_true, true_implies, false_implies, implies_true, and_true, true_and], by simp only [P_M_demote, pT_isNodeM, vN_1, mN_1, nO_1, pO_1, ixb_1, vpb_1, om_1, ixb_0, vpb_0, s5b, s13b, s6b, s14b, c10, eq_self, one0, if_true, if_false, not_true_eq_false, not_false_eq_true, true_implies, false_implies, implies_true, and_true, true_and], ?_⟩
      rw [eV, eM]
      exact RS.same hJ0 _
    · by_cases c11 : sc 11 1 = 0
      · have eV : B_V_demote fz (nI 1) v = (-3, v) := by simp only [B_V_demote, vN_1, mN_1, nO_1, pO_1, ixb_1, vpb_1, om_1, ixb_0, vpb_0, s5b, s13b, s6b, s14b, c10, c11, eq_self, one0, if_true, if_false, not_true_eq_false, not_false_eq_true, true_implies, false_implies, implies_true, and_true, true_and]
        have eM : B_M_demote fz (nI 1) m = (-3, m) := by simp only [B_M_demote, vN_1, mN_1, nO_1, pO_1, ixb_1, vpb_1, om_1, ixb_0, vpb_0, s5b, s13b, s6b, s14b, c10, c11, eq_self, one0, if_true, if_false, not_true_eq_false, not_false_eq_true, true_implies, false_implies, implies_true, and_true, true_and]
        refine ⟨by simp only [P_V_demote, pT_isNode, pT_nodeOf, pT_peerOf, vN_1, mN_1, nO_1, pO_1, ixb_1, vpb_1, om_1, ixb_0, vpb_0, s5b, s13b, s6b, s14b, c10, c11, eq_self, one0, if_true, if_false, not_true_eq_false, not_false_eq_true, true_implies, false_implies, implies_true, and_true, true_and], by simp only [P_M_demote, pT_isNodeM, vN_1, mN_1, nO_1, pO_1, ixb_1, vpb_1, om_1, ixb_0, vpb_0, s5b, s13b, s6b, s14b, c10, c11, eq_self, one0, if_true, if_false, not_true_eq_false, not_false_eq_true, true_implies, false_implies, implies_true, and_true, true_and], ?_⟩
        rw [eV, eM]
        exact RS.same hJ0 _
      · by_cases cp : nI (cnP n own ft 1) ≤ 0
        · have eV : B_V_demote fz (nI 1) v = (0, u2 v 11 11 0) := by simp only [B_V_demote, vN_1, mN_1, nO_1, pO_1, ixb_1, vpb_1, om_1, ixb_0, vpb_0, s5b, s13b, s6b, s14b, c10, c11, bV, cp, eq_self, one0, if_true, if_false, not_true_eq_false, not_false_eq_true, true_implies, false_implies, implies_true, and_true, true_and]
          have eM : B_M_demote fz (nI 1) m = (0, u2 m 43 1 0) := by simp only [B_M_demote, vN_1, mN_1, nO_1, pO_1, ixb_1, vpb_1, om_1, ixb_0, vpb_0, s5b, s13b, s6b, s14b, c10, c11, bM, cp, eq_self, one0, if_true, if_false, not_true_eq_false, not_false_eq_true, true_implies, false_implies, implies_true, and_true, true_and]
          refine ⟨by simp only [P_V_demote, pT_isNode, pT_nodeOf, vN_1, mN_1, nO_1, pO_1, ixb_1, vpb_1, om_1, ixb_0, vpb_0, s5b, s13b, s6b, s14b, c10, c11, pV, eq_self, one0, if_true, if_false, not_true_eq_false, not_false_eq_true, true_implies, false_implies, implies_true, and_true, true_and], by simp only [P_M_demote, pT_isNodeM, vN_1, mN_1, nO_1, pO_1, ixb_1, vpb_1, om_1, ixb_0, vpb_0, s5b, s13b, s6b, s14b, c10, c11, pM, eq_self, one0, if_true, if_false, not_true_eq_false, not_false_eq_true, true_implies, false_implies, implies_true, and_true, true_and], ?_⟩
          rw [eV, eM]
          exact ⟨rfl, n, own, blk, ep, ft, u2 sc 11 1 0, lk, gr, mp, un, q, wt, wx, lg, us, pv, r_set_11_1 hR 0, hI.mono (by omega)⟩
        · have eV : B_V_demote fz (nI 1) v = (-5, v) := by simp only [B_V_demote, vN_1, mN_1, nO_1, pO_1, ixb_1, vpb_1, om_1, ixb_0, vpb_0, s5b, s13b, s6b, s14b, c10, c11, bV, bM, cp, pV, pM, eq_self, one0, if_true, if_false, not_true_eq_false, not_false_eq_true, true_implies, false_implies, implies_true, and_true, true_and]
          have eM : B_M_demote fz (nI 1) m = (-5, m) := by simp only [B_M_demote, vN_1, mN_1, nO_1, pO_1, ixb_1, vpb_1, om_1, ixb_0, vpb_0, s5b, s13b, s6b, s14b, c10, c11, bV, bM, cp, pV, pM, eq_self, one0, if_true, if_false, not_true_eq_false, not_false_eq_true, true_implies, false_implies, implies_true, and_true, true_and]
          refine ⟨by simp only [P_V_demote, pT_isNode, pT_nodeOf, pT_peerOf, vN_1, mN_1, nO_1, pO_1, ixb_1, vpb_1, om_1, ixb_0, vpb_0, s5b, s13b, s6b, s14b, c10, c11, bV, bM, cp, pV, pM, eq_self, one0, if_true, if_false, not_true_eq_false, not_false_eq_true, true_implies, false_implies, implies_true, and_true, true_and], by simp only [P_M_demote, pT_isNodeM, vN_1, mN_1, nO_1, pO_1, ixb_1, vpb_1, om_1, ixb_0, vpb_0, s5b, s13b, s6b, s14b, c10, c11, bV, bM, cp, pV, pM, eq_self, one0, if_true, if_false, not_true_eq_false, not_false_eq_true, true_implies, false_implies, implies_true, and_true, true_and], ?_⟩
          rw [eV, eM]
          exact RS.same hJ0 _
