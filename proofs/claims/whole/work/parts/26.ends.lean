theorem nI1_0 : ¬ nI 1 = 0 := by decide +kernel
theorem nO_0 (fz : Nat) (h : HH) : B_V_nodeOf fz (nI 0) h = 1 := by rw [B_V_nodeOf, if_pos nI_0]
theorem nO_1 (fz : Nat) (h : HH) : B_V_nodeOf fz (nI 1) h = 11 := by rw [B_V_nodeOf, if_neg nI1_0]
theorem r_empty_0 {n : Nat} {own blk ep ft : Nat → Nat} {sc : HH} {lk gr : Int32} {mp un : Nat → Nat → Bool} {q : Nat → List MSG} {wt : Nat → List Nat} {wx : Nat → Bool} {lg : Nat → List Nat} {us : Nat → Nat → Nat} {pv : Nat → Nat} {v m : HH} (fz : Nat) (hz : 400 ≤ fz) (hR : Rel n own blk ep ft sc lk gr mp un q wt wx lg us pv (v) (m)) : (v 1 5 = 0 ↔ ∀ j, j < 32 → mp 0 j = false) ∧ P_M_nothingInMap fz (nI 0) m ∧ (B_M_nothingInMap fz (nI 0) m = 0 ↔ ¬ ∀ j, j < 32 → mp 0 j = false) := by
  obtain ⟨hL, hT, hX, hS0, hM0, hD0, hR0, hA0, hW0, hG0, hU0, hE0, hS1, hM1, hD1, hR1, hA1, hW1, hG1, hU1, hE1⟩ := hR
  have c := cv_nothingInMap fz hz (b := 0) (by decide) m
  refine ⟨?_, c.1, ?_⟩
  · rw [bt_zero]
    exact ⟨fun r j hj => (hM0 j hj).1.symm.trans (r j hj), fun r j hj => (hM0 j hj).1.trans (r j hj)⟩
  · rw [c.2]
    exact not_congr ⟨fun r j hj => (bi_0 _).mp ((hM0 j hj).2.symm.trans (r j hj)), fun r j hj => (hM0 j hj).2.trans ((bi_0 _).mpr (r j hj))⟩
theorem r_end_0 {n : Nat} {own blk ep ft : Nat → Nat} {sc : HH} {lk gr : Int32} {mp un : Nat → Nat → Bool} {q : Nat → List MSG} {wt : Nat → List Nat} {wx : Nat → Bool} {lg : Nat → List Nat} {us : Nat → Nat → Nat} {pv : Nat → Nat} {v m : HH} (fz : Nat) (hz : 400 ≤ fz) (hn : n ≤ 300) (ho : ∀ w, 1 ≤ w → w ≤ n → own w < 2 ∧ ft w < 5) (hR : Rel n own blk ep ft sc lk gr mp un q wt wx lg us pv (v) (m)) (hl : (q 0).length < 25) : P_V_end fz 1 v ∧ P_M_endIfEmpty_30 fz (nI 0) (u2 (u2 (u2 m 44 0 0) 41 0 0) 39 0 0) ∧ Rel n own blk ep (cft own ft 0 3 2 n) (u2 (u2 (u2 sc 12 0 0) 9 0 0) 7 0 0) lk gr mp un (ug q 0 (q 0 ++ [(5, 0, sc 6 0)])) wt wx lg us pv (B_V_end fz 1 v) (B_M_endIfEmpty_30 fz (nI 0) (u2 (u2 (u2 m 44 0 0) 41 0 0) 39 0 0)) := by
  have r1 := r_set_7_0 (r_set_9_0 (r_set_12_0 hR 0) 0) 0
  have hb0 : (u2 (u2 (u2 v 1 12 0) 1 9 0) 1 7 0) 1 0 = nI 0 := by
    obtain ⟨hL, hT, hX, hS0, hM0, hD0, hR0, hA0, hW0, hG0, hU0, hE0, hS1, hM1, hD1, hR1, hA1, hW1, hG1, hU1, hE1⟩ := r1
    exact hS0.1
  obtain ⟨p1, p2, r2⟩ := r_chft fz hz hn ho r1 (b := 0) (a := 3) (y := 2) (by decide) (by decide) hb0 (xb2 := nI 0) rfl li3 li2
  have hxb : ix (nI 0) = 0 := nI_clamp (by decide)
  have hvb : vp_in (nI 0) 2 := vp_in_nI (by decide) (by decide)
  have hv6 : (B_T_changeFates fz ((u2 (u2 (u2 v 1 12 0) 1 9 0) 1 7 0) 1 0) 3 2 (u2 (u2 (u2 v 1 12 0) 1 9 0) 1 7 0)) 1 6 = sc 6 0 := by
    obtain ⟨hL, hT, hX, hS0, hM0, hD0, hR0, hA0, hW0, hG0, hU0, hE0, hS1, hM1, hD1, hR1, hA1, hW1, hG1, hU1, hE1⟩ := r2
    exact hS0.2.1
  have hm6 : (B_M_turnInto fz (nI 0) 3 2 (u2 (u2 (u2 m 44 0 0) 41 0 0) 39 0 0)) 38 0 = sc 6 0 := by
    obtain ⟨hL, hT, hX, hS0, hM0, hD0, hR0, hA0, hW0, hG0, hU0, hE0, hS1, hM1, hD1, hR1, hA1, hW1, hG1, hU1, hE1⟩ := r2
    obtain ⟨a0, a1, a2, a3, a4, a5, a6, a7, a8, a9, _⟩ := hS0
    exact a9
  obtain ⟨p3, p4, r3⟩ := r_send_0 fz r2 hl (5, 0, sc 6 0) (k := 5) (s := (B_T_changeFates fz ((u2 (u2 (u2 v 1 12 0) 1 9 0) 1 7 0) 1 0) 3 2 (u2 (u2 (u2 v 1 12 0) 1 9 0) 1 7 0)) 1 6) (x := 0) (k2 := 5) (s2 := (B_M_turnInto fz (nI 0) 3 2 (u2 (u2 (u2 m 44 0 0) 41 0 0) 39 0 0)) 38 0) (x2 := 0) li5 hv6 rfl li5 hm6 rfl
  refine ⟨⟨p1, p3, trivial⟩, ?_, ?_⟩
  · simp only [P_M_endIfEmpty_30, P_M_endIfEmpty_37, hxb, hvb, p2, p4, and_true]
  · simp only [B_M_endIfEmpty_30, B_M_endIfEmpty_37, hxb]
    exact r3
theorem r_endif_0 {n : Nat} {own blk ep ft : Nat → Nat} {sc : HH} {lk gr : Int32} {mp un : Nat → Nat → Bool} {q : Nat → List MSG} {wt : Nat → List Nat} {wx : Nat → Bool} {lg : Nat → List Nat} {us : Nat → Nat → Nat} {pv : Nat → Nat} {v m : HH} (fz : Nat) (hz : 400 ≤ fz) (hn : n ≤ 300) (ho : ∀ w, 1 ≤ w → w ≤ n → own w < 2 ∧ ft w < 5) (hR : Rel n own blk ep ft sc lk gr mp un q wt wx lg us pv (v) (m)) (hl : (q 0).length < 25) : ((∀ j, j < 32 → mp 0 j = false) → v 1 5 = 0 ∧ P_V_end fz 1 v ∧ P_M_endIfEmpty fz (nI 0) m ∧ Rel n own blk ep (cft own ft 0 3 2 n) (u2 (u2 (u2 sc 12 0 0) 9 0 0) 7 0 0) lk gr mp un (ug q 0 (q 0 ++ [(5, 0, sc 6 0)])) wt wx lg us pv (B_V_end fz 1 v) (B_M_endIfEmpty fz (nI 0) m)) ∧ ((¬ ∀ j, j < 32 → mp 0 j = false) → (¬ v 1 5 = 0) ∧ P_M_endIfEmpty fz (nI 0) m ∧ B_M_endIfEmpty fz (nI 0) m = m) := by
  have hxb : ix (nI 0) = 0 := nI_clamp (by decide)
  have hvb : vp_in (nI 0) 2 := vp_in_nI (by decide) (by decide)
  obtain ⟨e1, e2, e3⟩ := r_empty_0 fz hz hR
  refine ⟨fun hE => ?_, fun hE => ?_⟩
  · obtain ⟨p1, p2, r⟩ := r_end_0 fz hz hn ho hR hl
    have g : ¬ B_M_nothingInMap fz (nI 0) m = 0 := fun h => e3.mp h hE
    refine ⟨e1.mpr hE, p1, ?_, ?_⟩
    · simp only [P_M_endIfEmpty, hxb, hvb, e2, g, p2, not_false_eq_true, true_implies, false_implies, and_true, true_and]
    · simp only [B_M_endIfEmpty, hxb, g, if_false]
      exact r
  · have g : B_M_nothingInMap fz (nI 0) m = 0 := e3.mpr hE
    refine ⟨fun h => hE (e1.mp h), ?_, ?_⟩
    · simp only [P_M_endIfEmpty, e2, g, not_true_eq_false, true_implies, false_implies, and_true, true_and]
    · simp only [B_M_endIfEmpty, g, if_true]
theorem r_alone_0 {n : Nat} {own blk ep ft : Nat → Nat} {sc : HH} {lk gr : Int32} {mp un : Nat → Nat → Bool} {q : Nat → List MSG} {wt : Nat → List Nat} {wx : Nat → Bool} {lg : Nat → List Nat} {us : Nat → Nat → Nat} {pv : Nat → Nat} {v m : HH} (fz : Nat) (hn : n ≤ 300) (hR : Rel n own blk ep ft sc lk gr mp un q wt wx lg us pv (v) (m)) {w : Nat} (h1 : 1 ≤ w) (h2 : w ≤ n) (hw : own w = 0) (hk : blk w < 32) : P_V_endUpAlone fz (nI w) v ∧ P_M_alone fz (nI w) m ∧ ∃ (sc' : HH) (gr' : Int32), (Rel n own blk ep (ug ft w 3) (sc') lk (gr') (ug mp 0 (fun k => mp 0 k || decide (k = blk w))) un q wt wx lg us pv (B_V_endUpAlone fz (nI w) v) (B_M_alone fz (nI w) m)) ∧ ((sc' = sc ∧ gr' = gr) ∨ (gr' = gr + 1 ∧ sc' = u2 (u2 sc 7 0 (sc 6 0)) 6 0 (gr + 1))) := by
  have hxw : ix (nI w) = w := nI_clamp (by omega)
  have hvw : vp_in (nI w) 301 := vp_in_nI (by omega) (by decide)
  have hxb : ix (nI 0) = 0 := nI_clamp (by decide)
  have hvb : vp_in (nI 0) 2 := vp_in_nI (by decide) (by decide)
  have hxk : ix (nI (32 * 0 + blk w)) = 32 * 0 + blk w := nI_clamp (by omega)
  have hvk : vp_in (nI (32 * 0 + blk w)) 64 := vp_in_nI (by omega) (by decide)
  have r2 := r_mapset_0 (r_ft hR h1 h2 3 li3) hk
  have hno : B_V_nodeOf fz (nI 0) (u2 v 26 w 3) = 1 := nO_0 fz _
  obtain ⟨hL, hT, hX, hS0, hM0, hD0, hR0, hA0, hW0, hG0, hU0, hE0, hS1, hM1, hD1, hR1, hA1, hW1, hG1, hU1, hE1⟩ := hR
  obtain ⟨l1, l2, l3, l4⟩ := hL
  obtain ⟨a1, a2, a3, a4, a5⟩ := hT
  obtain ⟨⟨e1, e2, e3, e4, e5⟩, f1, f2, f3, f4⟩ := a5 w h1 h2
  rw [hw] at e1 f1
  obtain ⟨s0, s1, s2, s3, s4, s5, s6, s7, s8, s9, s10, _⟩ := hS0
  have e1' : (u2 v 26 w 3) 22 w = nI 0 := e1
  have e2' : (u2 v 26 w 3) 23 w = nI (blk w) := e2
  have e5' : (u2 v 26 w 3) 1 5 = v 1 5 := rfl
  have f2' : (u2 m 32 w 3) 29 w = nI (blk w) := f2
  have t7 : (u2 (u2 v 26 w 3) 1 5 (v 1 5 ||| ((1 : Int32) <<< (nI (blk w) &&& 31)))) 1 7 = sc 7 0 := s2
  have t6 : (u2 (u2 v 26 w 3) 1 5 (v 1 5 ||| ((1 : Int32) <<< (nI (blk w) &&& 31)))) 1 6 = sc 6 0 := s1
  have u7 : (u2 (u2 m 32 w 3) 35 (32 * 0 + blk w) 1) 39 0 = sc 7 0 := s10
  have u6 : (u2 (u2 m 32 w 3) 35 (32 * 0 + blk w) 1) 38 0 = sc 6 0 := s9
  by_cases h7 : sc 7 0 = 0
  · have t4 : (u2 (u2 (u2 v 26 w 3) 1 5 (v 1 5 ||| ((1 : Int32) <<< (nI (blk w) &&& 31)))) 1 7 (sc 6 0)) 0 4 = gr := l2
    have t4' : (u2 (u2 (u2 (u2 v 26 w 3) 1 5 (v 1 5 ||| ((1 : Int32) <<< (nI (blk w) &&& 31)))) 1 7 (sc 6 0)) 0 4 (gr + 1)) 0 4 = gr + 1 := rfl
    have u4 : (u2 (u2 (u2 m 32 w 3) 35 (32 * 0 + blk w) 1) 39 0 (sc 6 0)) 27 14 = gr := l4
    have u4' : (u2 (u2 (u2 (u2 m 32 w 3) 35 (32 * 0 + blk w) 1) 39 0 (sc 6 0)) 27 14 (gr + 1)) 27 14 = gr + 1 := rfl
    have r5 := r_set_6_0 (r_gr (r_set_7_0 r2 (sc 6 0)) (gr + 1)) (gr + 1)
    refine ⟨?_, ?_, _, _, ?_, Or.inr ⟨rfl, rfl⟩⟩
    · simp only [P_V_endUpAlone, P_V_endUpAlone_10, P_V_endUpAlone_44, P_V_endUpAlone_59, P_V_endUpAlone_69, P_V_nodeOf, hxw, hvw, implies_true, and_true, true_and]
    · simp only [P_M_alone, P_M_alone_14, P_M_alone_31, P_M_alone_52, P_M_alone_62, hxw, hvw, f1, f2', x32, hxk, hvk, hxb, hvb, implies_true, and_true, true_and]
    · simp only [B_V_endUpAlone, B_V_endUpAlone_10, B_V_endUpAlone_44, B_V_endUpAlone_59, B_V_endUpAlone_69, hxw, e1', hno, e2', e5', t7, t6, h7, t4, t4', B_M_alone, B_M_alone_14, B_M_alone_31, B_M_alone_52, B_M_alone_62, f1, f2', x32, hxk, hxb, u7, u6, u4, u4', if_true]
      exact r5
  · refine ⟨?_, ?_, _, _, ?_, Or.inl ⟨rfl, rfl⟩⟩
    · simp only [P_V_endUpAlone, P_V_endUpAlone_10, P_V_endUpAlone_44, P_V_endUpAlone_59, P_V_endUpAlone_69, P_V_nodeOf, hxw, hvw, implies_true, and_true, true_and]
    · simp only [P_M_alone, P_M_alone_14, P_M_alone_31, P_M_alone_52, P_M_alone_62, hxw, hvw, f1, f2', x32, hxk, hvk, hxb, hvb, implies_true, and_true, true_and]
    · simp only [B_V_endUpAlone, B_V_endUpAlone_10, B_V_endUpAlone_44, hxw, e1', hno, e2', e5', t7, h7, B_M_alone, B_M_alone_14, B_M_alone_31, f1, f2', x32, hxk, hxb, u7, if_false]
      exact r2
theorem r_leave_0 {n : Nat} {own blk ep ft : Nat → Nat} {sc : HH} {lk gr : Int32} {mp un : Nat → Nat → Bool} {q : Nat → List MSG} {wt : Nat → List Nat} {wx : Nat → Bool} {lg : Nat → List Nat} {us : Nat → Nat → Nat} {pv : Nat → Nat} {v m : HH} (fz : Nat) (hR : Rel n own blk ep ft sc lk gr mp un q wt wx lg us pv (v) (m)) : Rel n own blk ep ft (u2 (u2 sc 12 0 0) 13 0 0) lk gr mp (ug un 0 (fun _ => false)) (ug q 0 []) (ug wt 0 []) wx lg us pv (B_N_leaveLink fz 1 v) (u2 (u2 (u2 m 51 0 0) 44 0 0) 45 0 0) := by
  obtain ⟨hL, hT, hX, hS0, hM0, hD0, hR0, hA0, hW0, hG0, hU0, hE0, hS1, hM1, hD1, hR1, hA1, hW1, hG1, hU1, hE1⟩ := hR
  obtain ⟨a0, a1, a2, a3, a4, a5, a6, a7, a8, a9, a10, a11, a12, a13, a14, a15, a16⟩ := hS0
  obtain ⟨f, f1, f2, f3, f4, f5⟩ := hR0
  exact ⟨hL, hT, hX, ⟨a0, a1, a2, a3, a4, a5, a6, rfl, rfl, a9, a10, a11, a12, a13, a14, rfl, rfl⟩, hM0, hD0, ⟨f, f1, Nat.zero_le _, f3, li0, fun k a hk => by cases hk⟩, ⟨li0, fun k a hk => by cases hk⟩, ⟨Nat.zero_le _, li0, fun k a hk => by cases hk⟩, hG0, fun j hj => b_0 j, hE0, hS1, hM1, hD1, hR1, hA1, hW1, hG1, hU1, hE1⟩
theorem r_empty_1 {n : Nat} {own blk ep ft : Nat → Nat} {sc : HH} {lk gr : Int32} {mp un : Nat → Nat → Bool} {q : Nat → List MSG} {wt : Nat → List Nat} {wx : Nat → Bool} {lg : Nat → List Nat} {us : Nat → Nat → Nat} {pv : Nat → Nat} {v m : HH} (fz : Nat) (hz : 400 ≤ fz) (hR : Rel n own blk ep ft sc lk gr mp un q wt wx lg us pv (v) (m)) : (v 11 5 = 0 ↔ ∀ j, j < 32 → mp 1 j = false) ∧ P_M_nothingInMap fz (nI 1) m ∧ (B_M_nothingInMap fz (nI 1) m = 0 ↔ ¬ ∀ j, j < 32 → mp 1 j = false) := by
  obtain ⟨hL, hT, hX, hS0, hM0, hD0, hR0, hA0, hW0, hG0, hU0, hE0, hS1, hM1, hD1, hR1, hA1, hW1, hG1, hU1, hE1⟩ := hR
  have c := cv_nothingInMap fz hz (b := 1) (by decide) m
  refine ⟨?_, c.1, ?_⟩
  · rw [bt_zero]
    exact ⟨fun r j hj => (hM1 j hj).1.symm.trans (r j hj), fun r j hj => (hM1 j hj).1.trans (r j hj)⟩
  · rw [c.2]
    exact not_congr ⟨fun r j hj => (bi_0 _).mp ((hM1 j hj).2.symm.trans (r j hj)), fun r j hj => (hM1 j hj).2.trans ((bi_0 _).mpr (r j hj))⟩
theorem r_end_1 {n : Nat} {own blk ep ft : Nat → Nat} {sc : HH} {lk gr : Int32} {mp un : Nat → Nat → Bool} {q : Nat → List MSG} {wt : Nat → List Nat} {wx : Nat → Bool} {lg : Nat → List Nat} {us : Nat → Nat → Nat} {pv : Nat → Nat} {v m : HH} (fz : Nat) (hz : 400 ≤ fz) (hn : n ≤ 300) (ho : ∀ w, 1 ≤ w → w ≤ n → own w < 2 ∧ ft w < 5) (hR : Rel n own blk ep ft sc lk gr mp un q wt wx lg us pv (v) (m)) (hl : (q 1).length < 25) : P_V_end fz 11 v ∧ P_M_endIfEmpty_30 fz (nI 1) (u2 (u2 (u2 m 44 1 0) 41 1 0) 39 1 0) ∧ Rel n own blk ep (cft own ft 1 3 2 n) (u2 (u2 (u2 sc 12 1 0) 9 1 0) 7 1 0) lk gr mp un (ug q 1 (q 1 ++ [(5, 0, sc 6 1)])) wt wx lg us pv (B_V_end fz 11 v) (B_M_endIfEmpty_30 fz (nI 1) (u2 (u2 (u2 m 44 1 0) 41 1 0) 39 1 0)) := by
  have r1 := r_set_7_1 (r_set_9_1 (r_set_12_1 hR 0) 0) 0
  have hb0 : (u2 (u2 (u2 v 11 12 0) 11 9 0) 11 7 0) 11 0 = nI 1 := by
    obtain ⟨hL, hT, hX, hS0, hM0, hD0, hR0, hA0, hW0, hG0, hU0, hE0, hS1, hM1, hD1, hR1, hA1, hW1, hG1, hU1, hE1⟩ := r1
    exact hS1.1
  obtain ⟨p1, p2, r2⟩ := r_chft fz hz hn ho r1 (b := 1) (a := 3) (y := 2) (by decide) (by decide) hb0 (xb2 := nI 1) rfl li3 li2
  have hxb : ix (nI 1) = 1 := nI_clamp (by decide)
  have hvb : vp_in (nI 1) 2 := vp_in_nI (by decide) (by decide)
  have hv6 : (B_T_changeFates fz ((u2 (u2 (u2 v 11 12 0) 11 9 0) 11 7 0) 11 0) 3 2 (u2 (u2 (u2 v 11 12 0) 11 9 0) 11 7 0)) 11 6 = sc 6 1 := by
    obtain ⟨hL, hT, hX, hS0, hM0, hD0, hR0, hA0, hW0, hG0, hU0, hE0, hS1, hM1, hD1, hR1, hA1, hW1, hG1, hU1, hE1⟩ := r2
    exact hS1.2.1
  have hm6 : (B_M_turnInto fz (nI 1) 3 2 (u2 (u2 (u2 m 44 1 0) 41 1 0) 39 1 0)) 38 1 = sc 6 1 := by
    obtain ⟨hL, hT, hX, hS0, hM0, hD0, hR0, hA0, hW0, hG0, hU0, hE0, hS1, hM1, hD1, hR1, hA1, hW1, hG1, hU1, hE1⟩ := r2
    obtain ⟨a0, a1, a2, a3, a4, a5, a6, a7, a8, a9, _⟩ := hS1
    exact a9
  obtain ⟨p3, p4, r3⟩ := r_send_1 fz r2 hl (5, 0, sc 6 1) (k := 5) (s := (B_T_changeFates fz ((u2 (u2 (u2 v 11 12 0) 11 9 0) 11 7 0) 11 0) 3 2 (u2 (u2 (u2 v 11 12 0) 11 9 0) 11 7 0)) 11 6) (x := 0) (k2 := 5) (s2 := (B_M_turnInto fz (nI 1) 3 2 (u2 (u2 (u2 m 44 1 0) 41 1 0) 39 1 0)) 38 1) (x2 := 0) li5 hv6 rfl li5 hm6 rfl
  refine ⟨⟨p1, p3, trivial⟩, ?_, ?_⟩
  · simp only [P_M_endIfEmpty_30, P_M_endIfEmpty_37, hxb, hvb, p2, p4, and_true]
  · simp only [B_M_endIfEmpty_30, B_M_endIfEmpty_37, hxb]
    exact r3
theorem r_endif_1 {n : Nat} {own blk ep ft : Nat → Nat} {sc : HH} {lk gr : Int32} {mp un : Nat → Nat → Bool} {q : Nat → List MSG} {wt : Nat → List Nat} {wx : Nat → Bool} {lg : Nat → List Nat} {us : Nat → Nat → Nat} {pv : Nat → Nat} {v m : HH} (fz : Nat) (hz : 400 ≤ fz) (hn : n ≤ 300) (ho : ∀ w, 1 ≤ w → w ≤ n → own w < 2 ∧ ft w < 5) (hR : Rel n own blk ep ft sc lk gr mp un q wt wx lg us pv (v) (m)) (hl : (q 1).length < 25) : ((∀ j, j < 32 → mp 1 j = false) → v 11 5 = 0 ∧ P_V_end fz 11 v ∧ P_M_endIfEmpty fz (nI 1) m ∧ Rel n own blk ep (cft own ft 1 3 2 n) (u2 (u2 (u2 sc 12 1 0) 9 1 0) 7 1 0) lk gr mp un (ug q 1 (q 1 ++ [(5, 0, sc 6 1)])) wt wx lg us pv (B_V_end fz 11 v) (B_M_endIfEmpty fz (nI 1) m)) ∧ ((¬ ∀ j, j < 32 → mp 1 j = false) → (¬ v 11 5 = 0) ∧ P_M_endIfEmpty fz (nI 1) m ∧ B_M_endIfEmpty fz (nI 1) m = m) := by
  have hxb : ix (nI 1) = 1 := nI_clamp (by decide)
  have hvb : vp_in (nI 1) 2 := vp_in_nI (by decide) (by decide)
  obtain ⟨e1, e2, e3⟩ := r_empty_1 fz hz hR
  refine ⟨fun hE => ?_, fun hE => ?_⟩
  · obtain ⟨p1, p2, r⟩ := r_end_1 fz hz hn ho hR hl
    have g : ¬ B_M_nothingInMap fz (nI 1) m = 0 := fun h => e3.mp h hE
    refine ⟨e1.mpr hE, p1, ?_, ?_⟩
    · simp only [P_M_endIfEmpty, hxb, hvb, e2, g, p2, not_false_eq_true, true_implies, false_implies, and_true, true_and]
    · simp only [B_M_endIfEmpty, hxb, g, if_false]
      exact r
  · have g : B_M_nothingInMap fz (nI 1) m = 0 := e3.mpr hE
    refine ⟨fun h => hE (e1.mp h), ?_, ?_⟩
    · simp only [P_M_endIfEmpty, e2, g, not_true_eq_false, true_implies, false_implies, and_true, true_and]
    · simp only [B_M_endIfEmpty, g, if_true]
theorem r_alone_1 {n : Nat} {own blk ep ft : Nat → Nat} {sc : HH} {lk gr : Int32} {mp un : Nat → Nat → Bool} {q : Nat → List MSG} {wt : Nat → List Nat} {wx : Nat → Bool} {lg : Nat → List Nat} {us : Nat → Nat → Nat} {pv : Nat → Nat} {v m : HH} (fz : Nat) (hn : n ≤ 300) (hR : Rel n own blk ep ft sc lk gr mp un q wt wx lg us pv (v) (m)) {w : Nat} (h1 : 1 ≤ w) (h2 : w ≤ n) (hw : own w = 1) (hk : blk w < 32) : P_V_endUpAlone fz (nI w) v ∧ P_M_alone fz (nI w) m ∧ ∃ (sc' : HH) (gr' : Int32), (Rel n own blk ep (ug ft w 3) (sc') lk (gr') (ug mp 1 (fun k => mp 1 k || decide (k = blk w))) un q wt wx lg us pv (B_V_endUpAlone fz (nI w) v) (B_M_alone fz (nI w) m)) ∧ ((sc' = sc ∧ gr' = gr) ∨ (gr' = gr + 1 ∧ sc' = u2 (u2 sc 7 1 (sc 6 1)) 6 1 (gr + 1))) := by
  have hxw : ix (nI w) = w := nI_clamp (by omega)
  have hvw : vp_in (nI w) 301 := vp_in_nI (by omega) (by decide)
  have hxb : ix (nI 1) = 1 := nI_clamp (by decide)
  have hvb : vp_in (nI 1) 2 := vp_in_nI (by decide) (by decide)
  have hxk : ix (nI (32 * 1 + blk w)) = 32 * 1 + blk w := nI_clamp (by omega)
  have hvk : vp_in (nI (32 * 1 + blk w)) 64 := vp_in_nI (by omega) (by decide)
  have r2 := r_mapset_1 (r_ft hR h1 h2 3 li3) hk
  have hno : B_V_nodeOf fz (nI 1) (u2 v 26 w 3) = 11 := nO_1 fz _
  obtain ⟨hL, hT, hX, hS0, hM0, hD0, hR0, hA0, hW0, hG0, hU0, hE0, hS1, hM1, hD1, hR1, hA1, hW1, hG1, hU1, hE1⟩ := hR
  obtain ⟨l1, l2, l3, l4⟩ := hL
  obtain ⟨a1, a2, a3, a4, a5⟩ := hT
  obtain ⟨⟨e1, e2, e3, e4, e5⟩, f1, f2, f3, f4⟩ := a5 w h1 h2
  rw [hw] at e1 f1
  obtain ⟨s0, s1, s2, s3, s4, s5, s6, s7, s8, s9, s10, _⟩ := hS1
  have e1' : (u2 v 26 w 3) 22 w = nI 1 := e1
  have e2' : (u2 v 26 w 3) 23 w = nI (blk w) := e2
  have e5' : (u2 v 26 w 3) 11 5 = v 11 5 := rfl
  have f2' : (u2 m 32 w 3) 29 w = nI (blk w) := f2
  have t7 : (u2 (u2 v 26 w 3) 11 5 (v 11 5 ||| ((1 : Int32) <<< (nI (blk w) &&& 31)))) 11 7 = sc 7 1 := s2
  have t6 : (u2 (u2 v 26 w 3) 11 5 (v 11 5 ||| ((1 : Int32) <<< (nI (blk w) &&& 31)))) 11 6 = sc 6 1 := s1
  have u7 : (u2 (u2 m 32 w 3) 35 (32 * 1 + blk w) 1) 39 1 = sc 7 1 := s10
  have u6 : (u2 (u2 m 32 w 3) 35 (32 * 1 + blk w) 1) 38 1 = sc 6 1 := s9
  by_cases h7 : sc 7 1 = 0
  · have t4 : (u2 (u2 (u2 v 26 w 3) 11 5 (v 11 5 ||| ((1 : Int32) <<< (nI (blk w) &&& 31)))) 11 7 (sc 6 1)) 0 4 = gr := l2
    have t4' : (u2 (u2 (u2 (u2 v 26 w 3) 11 5 (v 11 5 ||| ((1 : Int32) <<< (nI (blk w) &&& 31)))) 11 7 (sc 6 1)) 0 4 (gr + 1)) 0 4 = gr + 1 := rfl
    have u4 : (u2 (u2 (u2 m 32 w 3) 35 (32 * 1 + blk w) 1) 39 1 (sc 6 1)) 27 14 = gr := l4
    have u4' : (u2 (u2 (u2 (u2 m 32 w 3) 35 (32 * 1 + blk w) 1) 39 1 (sc 6 1)) 27 14 (gr + 1)) 27 14 = gr + 1 := rfl
    have r5 := r_set_6_1 (r_gr (r_set_7_1 r2 (sc 6 1)) (gr + 1)) (gr + 1)
    refine ⟨?_, ?_, _, _, ?_, Or.inr ⟨rfl, rfl⟩⟩
    · simp only [P_V_endUpAlone, P_V_endUpAlone_10, P_V_endUpAlone_44, P_V_endUpAlone_59, P_V_endUpAlone_69, P_V_nodeOf, hxw, hvw, implies_true, and_true, true_and]
    · simp only [P_M_alone, P_M_alone_14, P_M_alone_31, P_M_alone_52, P_M_alone_62, hxw, hvw, f1, f2', x32, hxk, hvk, hxb, hvb, implies_true, and_true, true_and]
    · simp only [B_V_endUpAlone, B_V_endUpAlone_10, B_V_endUpAlone_44, B_V_endUpAlone_59, B_V_endUpAlone_69, hxw, e1', hno, e2', e5', t7, t6, h7, t4, t4', B_M_alone, B_M_alone_14, B_M_alone_31, B_M_alone_52, B_M_alone_62, f1, f2', x32, hxk, hxb, u7, u6, u4, u4', if_true]
      exact r5
  · refine ⟨?_, ?_, _, _, ?_, Or.inl ⟨rfl, rfl⟩⟩
    · simp only [P_V_endUpAlone, P_V_endUpAlone_10, P_V_endUpAlone_44, P_V_endUpAlone_59, P_V_endUpAlone_69, P_V_nodeOf, hxw, hvw, implies_true, and_true, true_and]
    · simp only [P_M_alone, P_M_alone_14, P_M_alone_31, P_M_alone_52, P_M_alone_62, hxw, hvw, f1, f2', x32, hxk, hvk, hxb, hvb, implies_true, and_true, true_and]
    · simp only [B_V_endUpAlone, B_V_endUpAlone_10, B_V_endUpAlone_44, hxw, e1', hno, e2', e5', t7, h7, B_M_alone, B_M_alone_14, B_M_alone_31, f1, f2', x32, hxk, hxb, u7, if_false]
      exact r2
theorem r_leave_1 {n : Nat} {own blk ep ft : Nat → Nat} {sc : HH} {lk gr : Int32} {mp un : Nat → Nat → Bool} {q : Nat → List MSG} {wt : Nat → List Nat} {wx : Nat → Bool} {lg : Nat → List Nat} {us : Nat → Nat → Nat} {pv : Nat → Nat} {v m : HH} (fz : Nat) (hR : Rel n own blk ep ft sc lk gr mp un q wt wx lg us pv (v) (m)) : Rel n own blk ep ft (u2 (u2 sc 12 1 0) 13 1 0) lk gr mp (ug un 1 (fun _ => false)) (ug q 1 []) (ug wt 1 []) wx lg us pv (B_N_leaveLink fz 11 v) (u2 (u2 (u2 m 51 1 0) 44 1 0) 45 1 0) := by
  obtain ⟨hL, hT, hX, hS0, hM0, hD0, hR0, hA0, hW0, hG0, hU0, hE0, hS1, hM1, hD1, hR1, hA1, hW1, hG1, hU1, hE1⟩ := hR
  obtain ⟨a0, a1, a2, a3, a4, a5, a6, a7, a8, a9, a10, a11, a12, a13, a14, a15, a16⟩ := hS1
  obtain ⟨f, f1, f2, f3, f4, f5⟩ := hR1
  exact ⟨hL, hT, hX, hS0, hM0, hD0, hR0, hA0, hW0, hG0, hU0, hE0, ⟨a0, a1, a2, a3, a4, a5, a6, rfl, rfl, a9, a10, a11, a12, a13, a14, rfl, rfl⟩, hM1, hD1, ⟨f, f1, Nat.zero_le _, f3, li0, fun k a hk => by cases hk⟩, ⟨li0, fun k a hk => by cases hk⟩, ⟨Nat.zero_le _, li0, fun k a hk => by cases hk⟩, hG1, fun j hj => b_0 j, hE1⟩
theorem r_bloop (fz : Nat) (hz : 400 ≤ fz) {n : Nat} {own blk ep : Nat → Nat} {lk : Int32} {un : Nat → Nat → Bool} {q : Nat → List MSG} {wt : Nat → List Nat} {lg : Nat → List Nat} {us : Nat → Nat → Nat} {pv : Nat → Nat} (hn : n ≤ 300) (ho : ∀ w, 1 ≤ w → w ≤ n → own w < 2 ∧ blk w < 32) : ∀ (k fu w : Nat) (ft : Nat → Nat) (sc : HH) (gr : Int32) (mp : Nat → Nat → Bool) (wx : Nat → Bool) (v m : HH), Rel n own blk ep ft sc lk gr mp un q wt wx lg us pv (v) (m) → (∀ w, 1 ≤ w → w ≤ n → ft w < 5) → 1 ≤ w → w + k = n + 1 → k < fu → P_V_breakLink_21 fz fu (nI w) v ∧ P_M_breakLink_41 fz fu (nI w) m ∧ ∃ (ft' : Nat → Nat) (sc' : HH) (gr' : Int32) (mp' : Nat → Nat → Bool) (wx' : Nat → Bool), Rel n own blk ep (ft') (sc') lk (gr') (mp') un q wt (wx') lg us pv (B_V_breakLink_21 fz fu (nI w) v) (B_M_breakLink_41 fz fu (nI w) m) ∧ (∀ x, ft' x = if w ≤ x ∧ x ≤ n ∧ ft x = 1 then 3 else ft x) ∧ (∀ x, wx' x = if w ≤ x ∧ x ≤ n then false else wx x) ∧ (∀ c b, c ≠ 6 → c ≠ 7 → sc' c b = sc c b) ∧ (∀ b j, mp b j = true → mp' b j = true) ∧ (∀ g, gr = nI g → 1 ≤ g → g + k < 2 ^ 31 → (∃ g', gr' = nI g' ∧ 1 ≤ g' ∧ g' ≤ g + k) ∧ ∀ b, sc' 6 b = 0 → sc 6 b = 0) := by
  intro k
  induction k with
  | zero =>
    intro fu w ft sc gr mp wx v m hR hf5 h1 hk hf
    obtain ⟨fu, rfl⟩ : ∃ q, fu = q + 1 := ⟨fu - 1, by omega⟩
    have hR' := hR
    obtain ⟨hL, hT, hX, hS0, hM0, hD0, hR0, hA0, hW0, hG0, hU0, hE0, hS1, hM1, hD1, hR1, hA1, hW1, hG1, hU1, hE1⟩ := hR'
    have g1 : v 21 5 < nI w := by rw [hT.1]; exact nI_lt (by omega) (by omega)
    have g2 : m 27 0 < nI w := by rw [hT.2.1]; exact nI_lt (by omega) (by omega)
    refine ⟨by simp only [P_V_breakLink_21, g1, not_true_eq_false, true_implies, false_implies, and_true], by simp only [P_M_breakLink_41, g2, not_true_eq_false, true_implies, false_implies, and_true], ft, sc, gr, mp, wx, ?_, fun x => by rw [if_neg (by omega)], fun x => by rw [if_neg (by omega)], fun _ _ _ _ => rfl, fun _ _ h => h, fun g hg h1 _ => ⟨⟨g, hg, h1, by omega⟩, fun _ h => h⟩⟩
    simp only [B_V_breakLink_21, B_M_breakLink_41, g1, g2, if_true]
    exact hR
  | succ k ih =>
    intro fu w ft sc gr mp wx v m hR hf5 h1 hk hf
    obtain ⟨fu, rfl⟩ : ∃ q, fu = q + 1 := ⟨fu - 1, by omega⟩
    have rx := r_wx hR h1 false (x := 0) rfl
    have hR' := hR
    obtain ⟨hL, hT, hX, hS0, hM0, hD0, hR0, hA0, hW0, hG0, hU0, hE0, hS1, hM1, hD1, hR1, hA1, hW1, hG1, hU1, hE1⟩ := hR'
    have g1 : ¬ v 21 5 < nI w := by rw [hT.1]; exact nI_nlt (by omega) (by omega)
    have g2 : ¬ m 27 0 < nI w := by rw [hT.2.1]; exact nI_nlt (by omega) (by omega)
    have hxw : ix (nI w) = w := nI_clamp (by omega)
    have hvw : vp_in (nI w) 301 := vp_in_nI (by omega) (by decide)
    obtain ⟨⟨e1, e2, e3, e4, e5⟩, f1, f2, f3, f4⟩ := hT.2.2.2.2 w h1 (by omega)
    have f4' : (u2 m 33 w 0) 32 w = nI (ft w) := f4
    have k1 : nI (ft w) = (1 : Int32) ↔ ft w = 1 := by
      have := hf5 w h1 (by omega)
      rw [li1]
      exact nI_eq (by omega) (by omega)
    by_cases c : ft w = 1
    · have key : P_V_endUpAlone fz (nI w) v ∧ P_M_alone fz (nI w) (u2 m 33 w 0) ∧ ∃ (sc' : HH) (gr' : Int32) (mp' : Nat → Nat → Bool), (Rel n own blk ep (ug ft w 3) (sc') lk (gr') (mp') un q wt (ug wx w false) lg us pv (B_V_endUpAlone fz (nI w) v) (B_M_alone fz (nI w) (u2 m 33 w 0))) ∧ (∀ b j, mp b j = true → mp' b j = true) ∧ ((sc' = sc ∧ gr' = gr) ∨ ∃ b, (gr' = gr + 1 ∧ sc' = u2 (u2 sc 7 b (sc 6 b)) 6 b (gr + 1))) := by
        obtain ⟨o1, o2⟩ := ho w h1 (by omega)
        rcases (show own w = 0 ∨ own w = 1 by omega) with hw | hw
        · obtain ⟨p1, p2, sc', gr', r, hs⟩ := r_alone_0 fz hn rx h1 (by omega) hw o2
          refine ⟨p1, p2, sc', gr', _, r, fun b j hj => ?_, hs.imp id (fun x => ⟨0, x⟩)⟩
          unfold ug
          by_cases hb : b = 0
          · subst hb; simp [hj]
          · simp [hb, hj]
        · obtain ⟨p1, p2, sc', gr', r, hs⟩ := r_alone_1 fz hn rx h1 (by omega) hw o2
          refine ⟨p1, p2, sc', gr', _, r, fun b j hj => ?_, hs.imp id (fun x => ⟨1, x⟩)⟩
          unfold ug
          by_cases hb : b = 1
          · subst hb; simp [hj]
          · simp [hb, hj]
      obtain ⟨p1, p2, sc1, gr1, mp1, r1, hmp1, hsc1⟩ := key
      have hf5' : ∀ x, 1 ≤ x → x ≤ n → ug ft w 3 x < 5 := by
        intro x x1 x2
        unfold ug
        by_cases hx : x = w
        · rw [if_pos hx]
          decide
        · rw [if_neg hx]
          exact hf5 x x1 x2
      obtain ⟨p3, p4, ft2, sc2, gr2, mp2, wx2, r2, b1, b2, b3, b4, b5⟩ := ih fu (w + 1) (ug ft w 3) sc1 gr1 mp1 (ug wx w false) _ _ r1 hf5' (by omega) (by omega) (by omega)
      have cc : nI (ft w) = (1 : Int32) := k1.mpr c
      refine ⟨?_, ?_, ft2, sc2, gr2, mp2, wx2, ?_, fun x => ?_, fun x => ?_, fun c b h6 h7 => ?_, fun b j hj => b4 b j (hmp1 b j hj), fun g hg h1g hk2 => ?_⟩
      · simp only [P_V_breakLink_21, g1, hxw, hvw, e5, cc, p1, nI_1, p3, not_true_eq_false, not_false_eq_true, true_implies, false_implies, and_true, true_and]
      · simp only [P_M_breakLink_41, g2, hxw, hvw, f4', cc, p2, nI_1, p4, not_true_eq_false, not_false_eq_true, true_implies, false_implies, and_true, true_and]
      · simp only [B_V_breakLink_21, B_M_breakLink_41, g1, g2, hxw, e5, f4', cc, nI_1, if_true, if_false]
        exact r2
      · rw [b1 x]
        unfold ug
        by_cases hx : x = w
        · subst hx
          rw [if_neg (by omega), if_pos rfl, if_pos ⟨Nat.le_refl _, by omega, c⟩]
        · have e : (w + 1 ≤ x) ↔ (w ≤ x) := by omega
          simp only [hx, if_false, e]
      · rw [b2 x]
        unfold ug
        by_cases hx : x = w
        · subst hx
          rw [if_neg (by omega), if_pos rfl, if_pos (by omega)]
        · have e : (w + 1 ≤ x) ↔ (w ≤ x) := by omega
          simp only [hx, if_false, e]
      · rw [b3 c b h6 h7]
        rcases hsc1 with ⟨hs, _⟩ | ⟨b', _, hs⟩
        · rw [hs]
        · rw [hs]
          unfold u2
          rw [if_neg (fun r => h6 r.1), if_neg (fun r => h7 r.1)]
      · rcases hsc1 with ⟨hs, hg1⟩ | ⟨b', hg1, hs⟩
        · obtain ⟨⟨g', q1, q2, q3⟩, q4⟩ := b5 g (by rw [hg1]; exact hg) h1g (by omega)
          refine ⟨⟨g', q1, q2, by omega⟩, fun b hb => ?_⟩
          have := q4 b hb
          rw [hs] at this
          exact this
        · obtain ⟨⟨g', q1, q2, q3⟩, q4⟩ := b5 (g + 1) (by rw [hg1, hg, nI_1]) (by omega) (by omega)
          refine ⟨⟨g', q1, q2, by omega⟩, fun b hb => ?_⟩
          have h0 := q4 b hb
          rw [hs, hg, nI_1] at h0
          unfold u2 at h0
          by_cases hbb : b = b'
          · rw [if_pos ⟨rfl, hbb⟩] at h0
            exact absurd h0 (nI_ne0 (by omega) (by omega))
          · rw [if_neg (fun r => hbb r.2), if_neg (fun r => hbb r.2)] at h0
            exact h0
    · obtain ⟨p3, p4, ft2, sc2, gr2, mp2, wx2, r2, b1, b2, b3, b4, b5⟩ := ih fu (w + 1) ft sc gr mp (ug wx w false) _ _ rx hf5 (by omega) (by omega) (by omega)
      have cc : ¬ nI (ft w) = (1 : Int32) := fun r => c (k1.mp r)
      refine ⟨?_, ?_, ft2, sc2, gr2, mp2, wx2, ?_, fun x => ?_, fun x => ?_, b3, b4, fun g hg h1g hk2 => ?_⟩
      · simp only [P_V_breakLink_21, g1, hxw, hvw, e5, cc, nI_1, p3, not_true_eq_false, not_false_eq_true, true_implies, false_implies, and_true, true_and]
      · simp only [P_M_breakLink_41, g2, hxw, hvw, f4', cc, nI_1, p4, not_true_eq_false, not_false_eq_true, true_implies, false_implies, and_true, true_and]
      · simp only [B_V_breakLink_21, B_M_breakLink_41, g1, g2, hxw, e5, f4', cc, nI_1, if_false]
        exact r2
      · rw [b1 x]
        by_cases hx : x = w
        · subst hx
          rw [if_neg (by omega), if_neg (fun r => c r.2.2)]
        · have e : (w + 1 ≤ x) ↔ (w ≤ x) := by omega
          simp only [e]
      · rw [b2 x]
        unfold ug
        by_cases hx : x = w
        · subst hx
          rw [if_neg (by omega), if_pos rfl, if_pos (by omega)]
        · have e : (w + 1 ≤ x) ↔ (w ≤ x) := by omega
          simp only [hx, if_false, e]
      · obtain ⟨⟨g', q1, q2, q3⟩, q4⟩ := b5 g hg h1g (by omega)
        exact ⟨⟨g', q1, q2, by omega⟩, q4⟩
theorem r_break {n : Nat} {own blk ep ft : Nat → Nat} {sc : HH} {lk gr : Int32} {mp un : Nat → Nat → Bool} {q : Nat → List MSG} {wt : Nat → List Nat} {wx : Nat → Bool} {lg : Nat → List Nat} {us : Nat → Nat → Nat} {pv : Nat → Nat} {v m : HH} (fz : Nat) (hz : 400 ≤ fz) (hn : n ≤ 300) (ho : ∀ w, 1 ≤ w → w ≤ n → own w < 2 ∧ blk w < 32) (hf5 : ∀ w, 1 ≤ w → w ≤ n → ft w < 5) (hR : Rel n own blk ep ft sc lk gr mp un q wt wx lg us pv (v) (m)) : P_V_breakLink fz v ∧ P_M_breakLink fz m ∧ ∃ (ft' : Nat → Nat) (sc' : HH) (gr' : Int32) (mp' : Nat → Nat → Bool) (wx' : Nat → Bool), Rel n own blk ep (ft') (sc') (0) (gr') (mp') (ug (ug un 0 (fun _ => false)) 1 (fun _ => false)) (ug (ug q 0 []) 1 []) (ug (ug wt 0 []) 1 []) (wx') lg us pv (B_V_breakLink fz v) (B_M_breakLink fz m) ∧ (∀ x, ft' x = if 1 ≤ x ∧ x ≤ n ∧ ft x = 1 then 3 else ft x) ∧ (∀ x, wx' x = if 1 ≤ x ∧ x ≤ n then false else wx x) ∧ (∀ c b, c ≠ 6 → c ≠ 7 → sc' c b = (u2 (u2 (u2 (u2 sc 12 0 0) 13 0 0) 12 1 0) 13 1 0) c b) ∧ (∀ b j, mp b j = true → mp' b j = true) ∧ (∀ g, gr = nI g → 1 ≤ g → g + n < 2 ^ 31 → (∃ g', gr' = nI g' ∧ 1 ≤ g' ∧ g' ≤ g + n) ∧ ∀ b, sc' 6 b = 0 → sc 6 b = 0) := by
  have r1 := r_leave_1 fz (r_leave_0 fz (r_lk hR 0))
  obtain ⟨p1, p2, ft', sc', gr', mp', wx', r, b1, b2, b3, b4, b5⟩ := r_bloop fz hz hn ho n fz 1 _ _ _ _ _ _ _ r1 hf5 (by omega) (by omega) (by omega)
  obtain ⟨fy, rfl⟩ : ∃ y, fz = y + 3 := ⟨fz - 3, by omega⟩
  rw [← li1] at p1 p2 r
  have z0 : ix (0 : Int32) = 0 := by decide
  have z1 : ix ((0 : Int32) + 1) = 1 := by decide
  have w0 : vp_in (0 : Int32) 2 := by rw [li0]; exact vp_in_nI (by decide) (by decide)
  have w1 : vp_in ((0 : Int32) + 1) 2 := by rw [show (0 : Int32) + 1 = nI 1 by decide +kernel]; exact vp_in_nI (by decide) (by decide)
  have g0 : ¬ (2 : Int32) ≤ 0 := by decide
  have g1 : ¬ (2 : Int32) ≤ 0 + 1 := by decide
  have g2 : (2 : Int32) ≤ 0 + 1 + 1 := by decide
  refine ⟨⟨trivial, trivial, p1⟩, ?_, ft', sc', gr', mp', wx', ?_, b1, b2, b3, b4, b5⟩
  · simp only [P_M_breakLink, P_M_breakLink_7, g0, g1, g2, z0, z1, w0, w1, not_true_eq_false, not_false_eq_true, true_implies, false_implies, and_true, true_and]
    exact p2
  · simp only [B_V_breakLink, B_V_breakLink_5, B_V_breakLink_12, B_V_breakLink_19, B_M_breakLink, B_M_breakLink_7, g0, g1, g2, z0, z1, if_true, if_false]
    exact r
