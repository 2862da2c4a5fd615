theorem Inv_room_0 {t : Nat} {n : Nat} {own blk ep ft : Nat → Nat} {sc : HH} {lk gr : Int32} {mp un : Nat → Nat → Bool} {q : Nat → List MSG} {wt : Nat → List Nat} {wx : Nat → Bool} {pv : Nat → Nat} (h : Inv t n own blk ep ft sc lk gr mp un q wt wx pv) (hs : sc 12 0 ≠ 0) : (q 0).length < 25 := by
  obtain ⟨iT, iG, iN0, iN1, iQ0, iQ1, iR0, iR1, iW, iC, iK, iE⟩ := h
  have h1 := iN0.both
  have h2 := iN1.both
  have h3 := qlen iQ0.1
  have h4 : (q 0).filter (fun a => a.1 == 5) = [] := by
    rw [List.filter_eq_nil_iff]
    intro a ha h5
    exact hs (iQ0.2.1 a ha (by simpa using h5)).2.1
  rw [h4, List.length_nil] at h3
  omega
theorem Inv_end_0 {t : Nat} {n : Nat} {own blk ep ft : Nat → Nat} {sc : HH} {lk gr : Int32} {mp un : Nat → Nat → Bool} {q : Nat → List MSG} {wt : Nat → List Nat} {wx : Nat → Bool} {pv : Nat → Nat} (h : Inv t n own blk ep ft sc lk gr mp un q wt wx pv) (hs : sc 12 0 ≠ 0) (hE : ∀ j, j < 32 → mp 0 j = false) (hl : lk ≠ 0) : Inv t n own blk ep (cft own ft 0 3 2 n) (u2 (u2 (u2 sc 12 0 0) 9 0 0) 7 0 0) lk gr mp un (ug q 0 (q 0 ++ [(5, 0, sc 6 0)])) wt wx pv := by
  obtain ⟨iT, iG, iN0, iN1, iQ0, iQ1, iR0, iR1, iW, iC, iK, iE⟩ := h
  obtain ⟨c1, c2, c3, c4, c5, c6, c7, c8⟩ := iC
  have hso : sc 12 1 = 0 := Classical.byContradiction (fun r => c6 ⟨hs, r⟩)
  have hto : sc 8 0 = 0 := c4 hs
  have hcu : sc 6 0 ≠ 0 := fun r => c1 r hto
  have ef : fwd (q 0 ++ [(5, 0, sc 6 0)]) = fwd (q 0) := (fwd_app _ _).trans (List.append_nil _)
  have eb : bck (q 0 ++ [(5, 0, sc 6 0)]) = bck (q 0) := (bck_app _ _).trans (List.append_nil _)
  have ed : dat (q 0 ++ [(5, 0, sc 6 0)]) = dat (q 0) := (dat_app _ _).trans (List.append_nil _)
  have nC : IN n own blk (cft own ft 0 3 2 n) 0 0 (mp 0) (un 0) (PL (q 1) (wt 1) (q 0 ++ [(5, 0, sc 6 0)])) := by
    have hp := (iN0.fates (ft' := cft own ft 0 3 2 n) (fun w _ _ _ => cft_1 (by decide) (by decide))).marks (src' := 0) (mp' := mp 0) (fun j hj => by
      obtain ⟨g1, g2, g3⟩ := iN0.2.2.2.1 j hj
      rw [hE j g1] at g2
      cases g2)
    unfold PL at hp ⊢
    rw [ef]
    exact hp
  have nO : IN n own blk (cft own ft 0 3 2 n) 1 (sc 12 1) (mp 1) (un 1) (PL (q 0 ++ [(5, 0, sc 6 0)]) (wt 0) (q 1)) := by
    have hp := iN1.fates (ft' := cft own ft 0 3 2 n) (fun w _ _ _ => cft_1 (by decide) (by decide))
    unfold PL at hp ⊢
    rw [eb]
    exact hp
  have nf : ∀ a, a ∈ q 0 → a.1 = 5 → False := fun a ha h5 => hs (iQ0.2.1 a ha h5).2.1
  have nQ : IQ (q 0 ++ [(5, 0, sc 6 0)]) 0 (sc 12 1) := by
    refine ⟨fun a ha => ?_, fun a ha h5 => ?_, ?_⟩
    · rcases List.mem_append.mp ha with ha | ha
      · exact iQ0.1 a ha
      · rw [List.mem_singleton.mp ha]
        exact (by decide : 1 ≤ 5 ∧ 5 ≤ 5)
    · rcases List.mem_append.mp ha with ha | ha
      · exact (nf a ha h5).elim
      · rw [List.mem_singleton.mp ha]
        exact ⟨hcu, rfl, hso⟩
    · have e4 : (q 0).filter (fun a => a.1 == 5) = [] := by
        rw [List.filter_eq_nil_iff]
        intro a ha h5
        exact nf a ha (by simpa using h5)
      rw [List.filter_append, e4]
      exact Nat.le_refl 1
  have nQo : IQ (q 1) 0 (sc 12 1) := ⟨iQ1.1, fun a ha h5 => absurd (iQ1.2.1 a ha h5).2.1 hs, iQ1.2.2⟩
  have nR : IR (wt 1) (q 0 ++ [(5, 0, sc 6 0)]) := by
    unfold IR
    rw [ed]
    exact iR0
  refine ⟨⟨iT.1, fun w g1 g2 => ⟨(iT.2 w g1 g2).1, (iT.2 w g1 g2).2.1, (iT.2 w g1 g2).2.2.1, cft_lt (iT.2 w g1 g2).2.2.2 (by decide)⟩⟩, iG, nC, nO, nQ, nQo, nR, iR1, iW, ?_, fun r => absurd r hl, iE⟩
  exact ⟨c1, c2, c3, fun r => absurd rfl r, c5, fun r => r.1 rfl, Or.inl rfl, c8⟩
theorem Inv_room_1 {t : Nat} {n : Nat} {own blk ep ft : Nat → Nat} {sc : HH} {lk gr : Int32} {mp un : Nat → Nat → Bool} {q : Nat → List MSG} {wt : Nat → List Nat} {wx : Nat → Bool} {pv : Nat → Nat} (h : Inv t n own blk ep ft sc lk gr mp un q wt wx pv) (hs : sc 12 1 ≠ 0) : (q 1).length < 25 := by
  obtain ⟨iT, iG, iN0, iN1, iQ0, iQ1, iR0, iR1, iW, iC, iK, iE⟩ := h
  have h1 := iN0.both
  have h2 := iN1.both
  have h3 := qlen iQ1.1
  have h4 : (q 1).filter (fun a => a.1 == 5) = [] := by
    rw [List.filter_eq_nil_iff]
    intro a ha h5
    exact hs (iQ1.2.1 a ha (by simpa using h5)).2.2
  rw [h4, List.length_nil] at h3
  omega
theorem Inv_end_1 {t : Nat} {n : Nat} {own blk ep ft : Nat → Nat} {sc : HH} {lk gr : Int32} {mp un : Nat → Nat → Bool} {q : Nat → List MSG} {wt : Nat → List Nat} {wx : Nat → Bool} {pv : Nat → Nat} (h : Inv t n own blk ep ft sc lk gr mp un q wt wx pv) (hs : sc 12 1 ≠ 0) (hE : ∀ j, j < 32 → mp 1 j = false) (hl : lk ≠ 0) : Inv t n own blk ep (cft own ft 1 3 2 n) (u2 (u2 (u2 sc 12 1 0) 9 1 0) 7 1 0) lk gr mp un (ug q 1 (q 1 ++ [(5, 0, sc 6 1)])) wt wx pv := by
  obtain ⟨iT, iG, iN0, iN1, iQ0, iQ1, iR0, iR1, iW, iC, iK, iE⟩ := h
  obtain ⟨c1, c2, c3, c4, c5, c6, c7, c8⟩ := iC
  have hso : sc 12 0 = 0 := Classical.byContradiction (fun r => c6 ⟨r, hs⟩)
  have hto : sc 8 1 = 0 := c5 hs
  have hcu : sc 6 1 ≠ 0 := fun r => c2 r hto
  have ef : fwd (q 1 ++ [(5, 0, sc 6 1)]) = fwd (q 1) := (fwd_app _ _).trans (List.append_nil _)
  have eb : bck (q 1 ++ [(5, 0, sc 6 1)]) = bck (q 1) := (bck_app _ _).trans (List.append_nil _)
  have ed : dat (q 1 ++ [(5, 0, sc 6 1)]) = dat (q 1) := (dat_app _ _).trans (List.append_nil _)
  have nC : IN n own blk (cft own ft 1 3 2 n) 1 0 (mp 1) (un 1) (PL (q 0) (wt 0) (q 1 ++ [(5, 0, sc 6 1)])) := by
    have hp := (iN1.fates (ft' := cft own ft 1 3 2 n) (fun w _ _ _ => cft_1 (by decide) (by decide))).marks (src' := 0) (mp' := mp 1) (fun j hj => by
      obtain ⟨g1, g2, g3⟩ := iN1.2.2.2.1 j hj
      rw [hE j g1] at g2
      cases g2)
    unfold PL at hp ⊢
    rw [ef]
    exact hp
  have nO : IN n own blk (cft own ft 1 3 2 n) 0 (sc 12 0) (mp 0) (un 0) (PL (q 1 ++ [(5, 0, sc 6 1)]) (wt 1) (q 0)) := by
    have hp := iN0.fates (ft' := cft own ft 1 3 2 n) (fun w _ _ _ => cft_1 (by decide) (by decide))
    unfold PL at hp ⊢
    rw [eb]
    exact hp
  have nf : ∀ a, a ∈ q 1 → a.1 = 5 → False := fun a ha h5 => hs (iQ1.2.1 a ha h5).2.2
  have nQ : IQ (q 1 ++ [(5, 0, sc 6 1)]) (sc 12 0) 0 := by
    refine ⟨fun a ha => ?_, fun a ha h5 => ?_, ?_⟩
    · rcases List.mem_append.mp ha with ha | ha
      · exact iQ1.1 a ha
      · rw [List.mem_singleton.mp ha]
        exact (by decide : 1 ≤ 5 ∧ 5 ≤ 5)
    · rcases List.mem_append.mp ha with ha | ha
      · exact (nf a ha h5).elim
      · rw [List.mem_singleton.mp ha]
        exact ⟨hcu, hso, rfl⟩
    · have e4 : (q 1).filter (fun a => a.1 == 5) = [] := by
        rw [List.filter_eq_nil_iff]
        intro a ha h5
        exact nf a ha (by simpa using h5)
      rw [List.filter_append, e4]
      exact Nat.le_refl 1
  have nQo : IQ (q 0) (sc 12 0) 0 := ⟨iQ0.1, fun a ha h5 => absurd (iQ0.2.1 a ha h5).2.2 hs, iQ0.2.2⟩
  have nR : IR (wt 0) (q 1 ++ [(5, 0, sc 6 1)]) := by
    unfold IR
    rw [ed]
    exact iR1
  refine ⟨⟨iT.1, fun w g1 g2 => ⟨(iT.2 w g1 g2).1, (iT.2 w g1 g2).2.1, (iT.2 w g1 g2).2.2.1, cft_lt (iT.2 w g1 g2).2.2.2 (by decide)⟩⟩, iG, nO, nC, nQo, nQ, iR0, nR, iW, ?_, fun r => absurd r hl, iE⟩
  exact ⟨c1, c2, c3, c4, fun r => absurd rfl r, fun r => r.2 rfl, c7, Or.inl rfl⟩
theorem arr_0 (fz : Nat) (hz : 400 ≤ fz) {t : Nat} (ht : t ≤ 600) {n : Nat} {own blk ep ft : Nat → Nat} {sc : HH} {lk gr : Int32} {mp un : Nat → Nat → Bool} {q : Nat → List MSG} {wt : Nat → List Nat} {wx : Nat → Bool} {lg : Nat → List Nat} {us : Nat → Nat → Nat} {pv : Nat → Nat} {v m : HH} (hI : Inv t n own blk ep ft sc lk gr mp un q wt wx pv) {a : MSG} {tl : List MSG} (hq : q 0 = a :: tl) (hR : Rel n own blk ep ft sc lk gr mp un (ug q 0 tl) wt wx lg us pv (v) (m)) : P_V_arrive fz 11 (nI a.1) (sbj a) (vlu a) v ∧ P_M_arrive fz (nI 1) (nI a.1) (sbj a) (vlu a) m ∧ J2 (t + 1) (B_V_arrive fz 11 (nI a.1) (sbj a) (vlu a) v) (B_M_arrive fz (nI 1) (nI a.1) (sbj a) (vlu a) m) := by
  have hn := hI.1.1
  have hI' := hI
  obtain ⟨iT, iG, iN0, iN1, iQ0, iQ1, iR0, iR1, iW, iC, iK, iE⟩ := hI'
  have hR' := hR
  obtain ⟨hL, hT, hX, hS0, hM0, hD0, hR0, hA0, hW0, hG0, hU0, hE0, hS1, hM1, hD1, hR1, hA1, hW1, hG1, hU1, hE1⟩ := hR'
  have hlk : lk ≠ 0 := fun r => by
    have := (iK r).1
    rw [hq] at this
    cases this
  obtain ⟨k, s, x⟩ := a
  have hk := iQ0.1 (k, s, x) (by rw [hq]; exact List.mem_cons_self)
  have hxc : ix (nI 1) = 1 := nI_clamp (by decide)
  have hvc : vp_in (nI 1) 2 := vp_in_nI (by decide) (by decide)
  obtain ⟨jT, jG, jN0, jN1, jQ0, jQ1, jR0, jR1, jW, jC, jK, jE⟩ := hI.mono (show t ≤ t + 1 by omega)
  rw [hq] at iN0 iN1 iQ0 iR0 jN0 jN1 jQ0 jR0
  have jQt := jQ0.tail
  rcases (show k = 1 ∨ k = 2 ∨ k = 3 ∨ k = 4 ∨ k = 5 by omega) with rfl | rfl | rfl | rfl | rfl
  · have e1 : sbj (1, s, x) = nI s := rfl
    have ef : fwd ((1, s, x) :: tl) = (0, s) :: fwd tl := rfl
    have eb : bck ((1, s, x) :: tl) = bck tl := rfl
    have ed : dat ((1, s, x) :: tl) = s :: dat tl := rfl
    have hmem : (0, s) ∈ PL (q 1) (wt 1) ((1, s, x) :: tl) := List.mem_append_right _ (List.mem_append_right _ (by rw [ef]; exact List.mem_cons_self))
    obtain ⟨⟨g1, g2⟩, g3, g4⟩ := (iN0.2.2.1 s).mp hmem
    have hroom : (wt 1).length < 8 := by
      have h0 := iN0.len.2
      unfold PL wmp at h0
      rw [ef, List.filter_append, List.filter_append, List.length_append, List.length_append] at h0
      have h1 : (List.filter (fun y : Nat × Nat => y.1 == 0) ((wt 1).map (fun w => (0, w)))).length = (wt 1).length := by
        rw [List.filter_eq_self.mpr (fun y hy => by
          obtain ⟨z, _, rfl⟩ := List.mem_map.mp hy
          rfl), List.length_map]
      have h2 : (List.filter (fun y : Nat × Nat => y.1 == 0) ((0, s) :: fwd tl)).length = (List.filter (fun y : Nat × Nat => y.1 == 0) (fwd tl)).length + 1 := rfl
      omega
    have hxs : ix (nI s) = s := nI_clamp (by omega)
    have hvs : vp_in (nI s) 301 := vp_in_nI (by omega) (by decide)
    obtain ⟨p1, r1⟩ := r_wadd_1 fz hR hroom (w := s) (x := nI s) rfl
    have r2 := r_wx r1 g1 true (x := 1) rfl
    have y1 : nI 1 = (1 : Int32) := li1.symm
    refine ⟨by simp only [P_V_arrive, e1, y1, p1, eq_self, one0, if_true, if_false, not_true_eq_false, not_false_eq_true, true_implies, false_implies, implies_true, and_true, true_and], by simp only [P_M_arrive, e1, y1, hvs, eq_self, one0, if_true, if_false, not_true_eq_false, not_false_eq_true, true_implies, false_implies, implies_true, and_true, true_and], ?_⟩
    have eV : B_V_arrive fz 11 (nI (1, s, x).1) (sbj (1, s, x)) (vlu (1, s, x)) v = B_L_add fz 11 (nI s) v := by simp only [B_V_arrive, e1, y1, eq_self, one0, if_true, if_false, not_true_eq_false, not_false_eq_true, true_implies, false_implies, implies_true, and_true, true_and]
    have eM : B_M_arrive fz (nI 1) (nI (1, s, x).1) (sbj (1, s, x)) (vlu (1, s, x)) m = u2 m 33 s 1 := by simp only [B_M_arrive, e1, y1, hxs, eq_self, one0, if_true, if_false, not_true_eq_false, not_false_eq_true, true_implies, false_implies, implies_true, and_true, true_and]
    rw [eV, eM]
    have nB : IN n own blk ft 0 (sc 12 0) (mp 0) (un 0) (PL (q 1) (wt 1 ++ [s]) tl) := by
      have e : PL (q 1) (wt 1 ++ [s]) tl = PL (q 1) (wt 1) ((1, s, x) :: tl) := by
        unfold PL wmp
        rw [ef, List.map_append, List.append_assoc]
        rfl
      rw [e]
      exact jN0
    have nC : IN n own blk ft 1 (sc 12 1) (mp 1) (un 1) (PL tl (wt 0) (q 1)) := jN1
    have nR : IR (wt 1 ++ [s]) tl := by
      unfold IR at jR0 ⊢
      rw [ed] at jR0
      rw [List.append_assoc]
      exact jR0
    have nW : IW n own (wt 0) (wt 1 ++ [s]) (ug wx s true) := by
      intro y h1 h2
      unfold ug
      by_cases ey : y = s
      · subst ey
        rw [if_pos rfl]
        exact ⟨fun _ => ⟨g2, Or.inr ⟨g3, List.mem_append_right _ List.mem_cons_self⟩⟩, fun _ => rfl⟩
      · rw [if_neg ey, jW y h1 h2, List.mem_append, List.mem_singleton]
        simp only [ey, or_false]
    exact ⟨n, own, blk, ep, ft, sc, lk, gr, mp, un, ug q 0 tl, ug wt 1 (wt 1 ++ [s]), ug wx s true, lg, us, pv, r2, jT, jG, nB, nC, jQt, jQ1, nR, jR1, nW, jC, fun r => absurd r hlk, jE⟩
  · have e1 : sbj (2, s, x) = nI s := rfl
    have ef : fwd ((2, s, x) :: tl) = fwd tl := rfl
    have eb : bck ((2, s, x) :: tl) = (0, s) :: bck tl := rfl
    have ed : dat ((2, s, x) :: tl) = dat tl := rfl
    have ePL : PL ((2, s, x) :: tl) (wt 0) (q 1) = (0, s) :: PL tl (wt 0) (q 1) := rfl
    rw [ePL] at iN1 jN1
    obtain ⟨⟨g1, g2⟩, g3, g4⟩ := (iN1.2.2.1 s).mp List.mem_cons_self
    obtain ⟨o1, o2, o3, o4⟩ := iT.2 s g1 g2
    have hxs : ix (nI s) = s := nI_clamp (by omega)
    have hvs : vp_in (nI s) 301 := vp_in_nI (by omega) (by decide)
    have y2 : nI 2 = (2 : Int32) := li2.symm
    have n21 : ¬ (2 : Int32) = 1 := by decide
    have r1 := r_ft hR g1 g2 2 li2
    have jT' : IT n own blk ep (ug ft s 2) := ⟨jT.1, fun w h1 h2 => ⟨(jT.2 w h1 h2).1, (jT.2 w h1 h2).2.1, (jT.2 w h1 h2).2.2.1, by
      unfold ug
      split
      · decide
      · exact (jT.2 w h1 h2).2.2.2⟩⟩
    have nB : IN n own blk (ug ft s 2) 0 (sc 12 0) (mp 0) (un 0) (PL (q 1) (wt 1) tl) := jN0.fates (fun w h1 h2 h3 => by
      unfold ug
      by_cases ew : w = s
      · subst ew
        omega
      · rw [if_neg ew])
    have q12 : (u2 v 26 s 2) 11 12 = sc 12 1 := by
      obtain ⟨z0, z1, z2, z3, z4, z5, z6, z7, z8, z9, z10, z11, z12, z13, z14, z15, z16⟩ := hS1
      exact z7
    have m44 : (u2 m 32 s 2) 44 1 = sc 12 1 := by
      obtain ⟨z0, z1, z2, z3, z4, z5, z6, z7, z8, z9, z10, z11, z12, z13, z14, z15, z16⟩ := hS1
      exact z15
    obtain ⟨⟨t1, t2, t3, t4, t5⟩, f1, f2, f3, f4⟩ := hT.2.2.2.2 s g1 g2
    have v23 : (u2 v 26 s 2) 23 s = nI (blk s) := t2
    have m29 : (u2 m 32 s 2) 29 s = nI (blk s) := f2
    by_cases hs : sc 12 1 = 0
    · refine ⟨by simp only [P_V_arrive, P_V_takeAck, P_V_takeAck_10, e1, y2, n21, hxs, hvs, q12, hs, eq_self, one0, if_true, if_false, not_true_eq_false, not_false_eq_true, true_implies, false_implies, implies_true, and_true, true_and], by simp only [P_M_arrive, P_M_arrive_27, e1, y2, n21, hxs, hvs, hxc, hvc, m44, hs, eq_self, one0, if_true, if_false, not_true_eq_false, not_false_eq_true, true_implies, false_implies, implies_true, and_true, true_and], ?_⟩
      have eV : B_V_arrive fz 11 (nI (2, s, x).1) (sbj (2, s, x)) (vlu (2, s, x)) v = u2 v 26 s 2 := by simp only [B_V_arrive, B_V_takeAck, B_V_takeAck_10, e1, y2, n21, hxs, q12, hs, eq_self, one0, if_true, if_false, not_true_eq_false, not_false_eq_true, true_implies, false_implies, implies_true, and_true, true_and]
      have eM : B_M_arrive fz (nI 1) (nI (2, s, x).1) (sbj (2, s, x)) (vlu (2, s, x)) m = u2 m 32 s 2 := by simp only [B_M_arrive, B_M_arrive_27, e1, y2, n21, hxs, hxc, m44, hs, eq_self, one0, if_true, if_false, not_true_eq_false, not_false_eq_true, true_implies, false_implies, implies_true, and_true, true_and]
      rw [eV, eM]
      have nC := jN1.pop0 (mp' := mp 1) (fun j h1 _ h => h)
      exact ⟨n, own, blk, ep, ug ft s 2, sc, lk, gr, mp, un, ug q 0 tl, wt, wx, lg, us, pv, r1, jT', jG, nB, nC, jQt, jQ1, jR0, jR1, jW, jC, fun r => absurd r hlk, jE⟩
    · have r2 := r_mapclr_1 r1 o2
      have nC := jN1.pop0 (mp' := fun k => mp 1 k && !decide (k = blk s)) (fun j _ h2 h3 => by simp [h2, h3])
      have hI1 : Inv (t + 1) n own blk ep (ug ft s 2) sc lk gr (ug mp 1 (fun k => mp 1 k && !decide (k = blk s))) un (ug q 0 tl) wt wx pv := ⟨jT', jG, nB, nC, jQt, jQ1, jR0, jR1, jW, jC, fun r => absurd r hlk, jE⟩
      have hroom := Inv_room_1 hI1 hs
      obtain ⟨hE1, hE2⟩ := r_endif_1 fz hz hn (fun w h1 h2 => ⟨(jT'.2 w h1 h2).1, (jT'.2 w h1 h2).2.2.2⟩) r2 hroom
      have hx64 : ix (nI (32 * 1 + blk s)) = 32 * 1 + blk s := nI_clamp (by omega)
      have hv64 : vp_in (nI (32 * 1 + blk s)) 64 := vp_in_nI (by omega) (by decide)
      by_cases hE : ∀ j, j < 32 → ug mp 1 (fun k => mp 1 k && !decide (k = blk s)) 1 j = false
      · obtain ⟨w1, w2, w3, w4⟩ := hE1 hE
        refine ⟨by simp only [P_V_arrive, P_V_takeAck, P_V_takeAck_10, P_V_takeFromMap, P_V_takeFromMap_14, e1, y2, n21, hxs, hvs, q12, hs, v23, w1, w2, eq_self, one0, if_true, if_false, not_true_eq_false, not_false_eq_true, true_implies, false_implies, implies_true, and_true, true_and], by simp only [P_M_arrive, P_M_arrive_27, P_M_arrive_53, e1, y2, n21, hxs, hvs, hxc, hvc, m44, hs, m29, x32, hx64, hv64, w3, eq_self, one0, if_true, if_false, not_true_eq_false, not_false_eq_true, true_implies, false_implies, implies_true, and_true, true_and], ?_⟩
        simp only [B_V_arrive, B_V_takeAck, B_V_takeAck_10, B_V_takeFromMap, B_V_takeFromMap_14, B_M_arrive, B_M_arrive_27, B_M_arrive_53, e1, y2, n21, hxs, hxc, q12, m44, hs, v23, m29, x32, hx64, w1, eq_self, one0, if_true, if_false, not_true_eq_false, not_false_eq_true, true_implies, false_implies, implies_true, and_true, true_and]
        exact ⟨_, _, _, _, _, _, _, _, _, _, _, _, _, lg, us, _, w4, Inv_end_1 hI1 hs hE hlk⟩
      · obtain ⟨w1, w2, w3⟩ := hE2 hE
        refine ⟨by simp only [P_V_arrive, P_V_takeAck, P_V_takeAck_10, P_V_takeFromMap, P_V_takeFromMap_14, e1, y2, n21, hxs, hvs, q12, hs, v23, w1, eq_self, one0, if_true, if_false, not_true_eq_false, not_false_eq_true, true_implies, false_implies, implies_true, and_true, true_and], by simp only [P_M_arrive, P_M_arrive_27, P_M_arrive_53, e1, y2, n21, hxs, hvs, hxc, hvc, m44, hs, m29, x32, hx64, hv64, w2, eq_self, one0, if_true, if_false, not_true_eq_false, not_false_eq_true, true_implies, false_implies, implies_true, and_true, true_and], ?_⟩
        simp only [B_V_arrive, B_V_takeAck, B_V_takeAck_10, B_V_takeFromMap, B_V_takeFromMap_14, B_M_arrive, B_M_arrive_27, B_M_arrive_53, e1, y2, n21, hxs, hxc, q12, m44, hs, v23, m29, x32, hx64, w1, w3, eq_self, one0, if_true, if_false, not_true_eq_false, not_false_eq_true, true_implies, false_implies, implies_true, and_true, true_and]
        exact ⟨_, _, _, _, _, _, _, _, _, _, _, _, _, lg, us, _, r2, hI1⟩
  · have e1 : sbj (3, s, x) = nI s := rfl
    have e2 : vlu (3, s, x) = x := rfl
    have ef : fwd ((3, s, x) :: tl) = (1, s) :: fwd tl := rfl
    have eb : bck ((3, s, x) :: tl) = bck tl := rfl
    have hmem : (1, s) ∈ PL (q 1) (wt 1) ((3, s, x) :: tl) := List.mem_append_right _ (List.mem_append_right _ (by rw [ef]; exact List.mem_cons_self))
    obtain ⟨g1, g2, g3⟩ := iN0.2.2.2.1 s hmem
    have hxs : ix (nI s) = s := nI_clamp (by omega)
    have hvs : vp_in (nI s) 32 := vp_in_nI (by omega) (by decide)
    have hx64 : ix (nI (32 * 1 + s)) = 32 * 1 + s := nI_clamp (by omega)
    have hv64 : vp_in (nI (32 * 1 + s)) 64 := vp_in_nI (by omega) (by decide)
    have y3 : nI 3 = (3 : Int32) := li3.symm
    have n31 : ¬ (3 : Int32) = 1 := by decide
    have n32 : ¬ (3 : Int32) = 2 := by decide
    have r1 := r_disk_1 hR g1 x
    have hroom : (q 1).length < 25 := by
      have h1 := iN0.both
      have h2 := iN1.both
      rw [ef, List.length_cons] at h1
      exact qroom iQ1 (by omega)
    obtain ⟨p1, p2, r2⟩ := r_send_1 fz r1 hroom (4, s, 0) (k := 4) (s := nI s) (x := 0) (k2 := 4) (s2 := nI s) (x2 := 0) li4 rfl rfl li4 rfl rfl
    refine ⟨by simp only [P_V_arrive, P_V_arrive_64, e1, e2, y3, n31, n32, hxs, hvs, p1, eq_self, one0, if_true, if_false, not_true_eq_false, not_false_eq_true, true_implies, false_implies, implies_true, and_true, true_and], by simp only [P_M_arrive, P_M_arrive_79, e1, e2, y3, n31, n32, x32, hx64, hv64, p2, eq_self, one0, if_true, if_false, not_true_eq_false, not_false_eq_true, true_implies, false_implies, implies_true, and_true, true_and], ?_⟩
    simp only [B_V_arrive, B_V_arrive_64, B_M_arrive, B_M_arrive_79, e1, e2, y3, n31, n32, hxs, x32, hx64, eq_self, one0, if_true, if_false, not_true_eq_false, not_false_eq_true, true_implies, false_implies, implies_true, and_true, true_and]
    have eb4 : bck (q 1 ++ [(4, s, 0)]) = bck (q 1) ++ [(1, s)] := bck_app _ _
    have ef4 : fwd (q 1 ++ [(4, s, 0)]) = fwd (q 1) := (fwd_app _ _).trans (List.append_nil _)
    have ed4 : dat (q 1 ++ [(4, s, 0)]) = dat (q 1) := (dat_app _ _).trans (List.append_nil _)
    have nB : IN n own blk ft 0 (sc 12 0) (mp 0) (un 0) (PL (q 1 ++ [(4, s, 0)]) (wt 1) tl) := by
      have hp := jN0
      unfold PL at hp ⊢
      rw [ef] at hp
      rw [eb4]
      exact hp.perm copy_perm (copy_order hp.2.2.2.2.1)
    have nC : IN n own blk ft 1 (sc 12 1) (mp 1) (un 1) (PL tl (wt 0) (q 1 ++ [(4, s, 0)])) := by
      have hp := jN1
      unfold PL at hp ⊢
      rw [ef4]
      exact hp
    have nR : IR (wt 0) (q 1 ++ [(4, s, 0)]) := by
      unfold IR
      rw [ed4]
      exact jR1
    exact ⟨_, _, _, _, _, _, _, _, _, _, _, _, _, lg, us, _, r2, jT, jG, nB, nC, jQt, jQ1.snoc (show 1 ≤ 4 by decide) (show 4 < 5 by decide), jR0, nR, jW, jC, fun r => absurd r hlk, jE⟩
  · have e1 : sbj (4, s, x) = nI s := rfl
    have ePL : PL ((4, s, x) :: tl) (wt 0) (q 1) = (1, s) :: PL tl (wt 0) (q 1) := rfl
    rw [ePL] at iN1 jN1
    obtain ⟨g1, g2, g3⟩ := iN1.2.2.2.1 s List.mem_cons_self
    have hxs : ix (nI s) = s := nI_clamp (by omega)
    have hx64 : ix (nI (32 * 1 + s)) = 32 * 1 + s := nI_clamp (by omega)
    have hv64 : vp_in (nI (32 * 1 + s)) 64 := vp_in_nI (by omega) (by decide)
    have y4 : nI 4 = (4 : Int32) := li4.symm
    have n41 : ¬ (4 : Int32) = 1 := by decide
    have n42 : ¬ (4 : Int32) = 2 := by decide
    have n43 : ¬ (4 : Int32) = 3 := by decide
    have r2 := r_mapclr_1 (r_un_1 hR (v 11 14 &&& (((1 : Int32) <<< (nI s &&& 31)) ^^^ (-1 : Int32)))) g1
    have nC : IN n own blk ft 1 (sc 12 1) (fun k => mp 1 k && !decide (k = s)) (bt (v 11 14 &&& (((1 : Int32) <<< (nI s &&& 31)) ^^^ (-1 : Int32)))) (PL tl (wt 0) (q 1)) := (jN1.pop1 (mp' := fun k => mp 1 k && !decide (k = s)) (fun j h1 h2 => by simp [h1, h2])).congrU (fun j hj => by rw [bt_clr _ g1 hj, hU1 j hj]) (fun _ _ => rfl)
    have hI1 : Inv (t + 1) n own blk ep ft sc lk gr (ug mp 1 (fun k => mp 1 k && !decide (k = s))) (ug un 1 (bt (v 11 14 &&& (((1 : Int32) <<< (nI s &&& 31)) ^^^ (-1 : Int32))))) (ug q 0 tl) wt wx pv := ⟨jT, jG, jN0, nC, jQt, jQ1, jR0, jR1, jW, jC, fun r => absurd r hlk, jE⟩
    have hroom := Inv_room_1 hI1 g3
    obtain ⟨hE1, hE2⟩ := r_endif_1 fz hz hn (fun w h1 h2 => ⟨(jT.2 w h1 h2).1, (jT.2 w h1 h2).2.2.2⟩) r2 hroom
    by_cases hE : ∀ j, j < 32 → ug mp 1 (fun k => mp 1 k && !decide (k = s)) 1 j = false
    · obtain ⟨w1, w2, w3, w4⟩ := hE1 hE
      refine ⟨by simp only [P_V_arrive, P_V_arrive_91, P_V_takeFromMap, P_V_takeFromMap_14, e1, y4, n41, n42, n43, w1, w2, eq_self, one0, if_true, if_false, not_true_eq_false, not_false_eq_true, true_implies, false_implies, implies_true, and_true, true_and], by simp only [P_M_arrive, P_M_arrive_107, e1, y4, n41, n42, n43, x32, hx64, hv64, w3, eq_self, one0, if_true, if_false, not_true_eq_false, not_false_eq_true, true_implies, false_implies, implies_true, and_true, true_and], ?_⟩
      simp only [B_V_arrive, B_V_arrive_91, B_V_takeFromMap, B_V_takeFromMap_14, B_M_arrive, B_M_arrive_107, e1, y4, n41, n42, n43, x32, hx64, w1, eq_self, one0, if_true, if_false, not_true_eq_false, not_false_eq_true, true_implies, false_implies, implies_true, and_true, true_and]
      exact ⟨_, _, _, _, _, _, _, _, _, _, _, _, _, lg, us, _, w4, Inv_end_1 hI1 g3 hE hlk⟩
    · obtain ⟨w1, w2, w3⟩ := hE2 hE
      refine ⟨by simp only [P_V_arrive, P_V_arrive_91, P_V_takeFromMap, P_V_takeFromMap_14, e1, y4, n41, n42, n43, w1, eq_self, one0, if_true, if_false, not_true_eq_false, not_false_eq_true, true_implies, false_implies, implies_true, and_true, true_and], by simp only [P_M_arrive, P_M_arrive_107, e1, y4, n41, n42, n43, x32, hx64, hv64, w2, eq_self, one0, if_true, if_false, not_true_eq_false, not_false_eq_true, true_implies, false_implies, implies_true, and_true, true_and], ?_⟩
      simp only [B_V_arrive, B_V_arrive_91, B_V_takeFromMap, B_V_takeFromMap_14, B_M_arrive, B_M_arrive_107, e1, y4, n41, n42, n43, x32, hx64, w1, w3, eq_self, one0, if_true, if_false, not_true_eq_false, not_false_eq_true, true_implies, false_implies, implies_true, and_true, true_and]
      exact ⟨_, _, _, _, _, _, _, _, _, _, _, _, _, lg, us, _, r2, hI1⟩
  · have e1 : sbj (5, s, x) = x := rfl
    obtain ⟨hx0, z0, z1⟩ := iQ0.2.1 (5, s, x) List.mem_cons_self rfl
    have y5 : nI 5 = (5 : Int32) := li5.symm
    have n51 : ¬ (5 : Int32) = 1 := by decide
    have n52 : ¬ (5 : Int32) = 2 := by decide
    have n53 : ¬ (5 : Int32) = 3 := by decide
    have n54 : ¬ (5 : Int32) = 4 := by decide
    have r1 := r_set_7_1 (r_set_6_1 (r_mapall_1 (X := 0) (f := fun _ => 0) (r_set_9_1 (r_set_8_1 (r_set_13_1 hR 0) 0) 0) (fun j _ => by rw [b_0]; rfl)) x) 0
    have cm := cv_finish fz hz (b := 1) (by decide) x (u2 (u2 (u2 m 45 1 0) 40 1 0) 41 1 0)
    refine ⟨by simp only [P_V_arrive, P_N_takeFinish, e1, y5, n51, n52, n53, n54, eq_self, one0, if_true, if_false, not_true_eq_false, not_false_eq_true, true_implies, false_implies, implies_true, and_true, true_and], by simp only [P_M_arrive, e1, y5, n51, n52, n53, n54, hxc, hvc, cm, eq_self, one0, if_true, if_false, not_true_eq_false, not_false_eq_true, true_implies, false_implies, implies_true, and_true, true_and], ?_⟩
    simp only [B_V_arrive, B_N_takeFinish, B_M_arrive, e1, y5, n51, n52, n53, n54, hxc, cm, eq_self, one0, if_true, if_false, not_true_eq_false, not_false_eq_true, true_implies, false_implies, implies_true, and_true, true_and]
    obtain ⟨c1, c2, c3, c4, c5, c6, c7, c8⟩ := jC
    have nC : IN n own blk ft 1 (sc 12 1) (bt 0) (un 1) (PL tl (wt 0) (q 1)) := jN1.marks (fun j hj => absurd z1 (jN1.2.2.2.1 j hj).2.2)
    refine ⟨_, _, _, _, _, _, _, _, _, _, _, _, _, lg, us, _, r1, jT, jG, jN0, nC, jQt, jQ1, jR0, jR1, jW, ?_, fun r => absurd r hlk, jE⟩
    exact ⟨c1, fun r => absurd r hx0, fun r => r.2 rfl, c4, fun _ => rfl, c6, c7, Or.inl rfl⟩
theorem arr_1 (fz : Nat) (hz : 400 ≤ fz) {t : Nat} (ht : t ≤ 600) {n : Nat} {own blk ep ft : Nat → Nat} {sc : HH} {lk gr : Int32} {mp un : Nat → Nat → Bool} {q : Nat → List MSG} {wt : Nat → List Nat} {wx : Nat → Bool} {lg : Nat → List Nat} {us : Nat → Nat → Nat} {pv : Nat → Nat} {v m : HH} (hI : Inv t n own blk ep ft sc lk gr mp un q wt wx pv) {a : MSG} {tl : List MSG} (hq : q 1 = a :: tl) (hR : Rel n own blk ep ft sc lk gr mp un (ug q 1 tl) wt wx lg us pv (v) (m)) : P_V_arrive fz 1 (nI a.1) (sbj a) (vlu a) v ∧ P_M_arrive fz (nI 0) (nI a.1) (sbj a) (vlu a) m ∧ J2 (t + 1) (B_V_arrive fz 1 (nI a.1) (sbj a) (vlu a) v) (B_M_arrive fz (nI 0) (nI a.1) (sbj a) (vlu a) m) := by
  have hn := hI.1.1
  have hI' := hI
  obtain ⟨iT, iG, iN0, iN1, iQ0, iQ1, iR0, iR1, iW, iC, iK, iE⟩ := hI'
  have hR' := hR
  obtain ⟨hL, hT, hX, hS0, hM0, hD0, hR0, hA0, hW0, hG0, hU0, hE0, hS1, hM1, hD1, hR1, hA1, hW1, hG1, hU1, hE1⟩ := hR'
  have hlk : lk ≠ 0 := fun r => by
    have := (iK r).2.1
    rw [hq] at this
    cases this
  obtain ⟨k, s, x⟩ := a
  have hk := iQ1.1 (k, s, x) (by rw [hq]; exact List.mem_cons_self)
  have hxc : ix (nI 0) = 0 := nI_clamp (by decide)
  have hvc : vp_in (nI 0) 2 := vp_in_nI (by decide) (by decide)
  obtain ⟨jT, jG, jN0, jN1, jQ0, jQ1, jR0, jR1, jW, jC, jK, jE⟩ := hI.mono (show t ≤ t + 1 by omega)
  rw [hq] at iN1 iN0 iQ1 iR1 jN1 jN0 jQ1 jR1
  have jQt := jQ1.tail
  rcases (show k = 1 ∨ k = 2 ∨ k = 3 ∨ k = 4 ∨ k = 5 by omega) with rfl | rfl | rfl | rfl | rfl
  · have e1 : sbj (1, s, x) = nI s := rfl
    have ef : fwd ((1, s, x) :: tl) = (0, s) :: fwd tl := rfl
    have eb : bck ((1, s, x) :: tl) = bck tl := rfl
    have ed : dat ((1, s, x) :: tl) = s :: dat tl := rfl
    have hmem : (0, s) ∈ PL (q 0) (wt 0) ((1, s, x) :: tl) := List.mem_append_right _ (List.mem_append_right _ (by rw [ef]; exact List.mem_cons_self))
    obtain ⟨⟨g1, g2⟩, g3, g4⟩ := (iN1.2.2.1 s).mp hmem
    have hroom : (wt 0).length < 8 := by
      have h0 := iN1.len.2
      unfold PL wmp at h0
      rw [ef, List.filter_append, List.filter_append, List.length_append, List.length_append] at h0
      have h1 : (List.filter (fun y : Nat × Nat => y.1 == 0) ((wt 0).map (fun w => (0, w)))).length = (wt 0).length := by
        rw [List.filter_eq_self.mpr (fun y hy => by
          obtain ⟨z, _, rfl⟩ := List.mem_map.mp hy
          rfl), List.length_map]
      have h2 : (List.filter (fun y : Nat × Nat => y.1 == 0) ((0, s) :: fwd tl)).length = (List.filter (fun y : Nat × Nat => y.1 == 0) (fwd tl)).length + 1 := rfl
      omega
    have hxs : ix (nI s) = s := nI_clamp (by omega)
    have hvs : vp_in (nI s) 301 := vp_in_nI (by omega) (by decide)
    obtain ⟨p1, r1⟩ := r_wadd_0 fz hR hroom (w := s) (x := nI s) rfl
    have r2 := r_wx r1 g1 true (x := 1) rfl
    have y1 : nI 1 = (1 : Int32) := li1.symm
    refine ⟨by simp only [P_V_arrive, e1, y1, p1, eq_self, one0, if_true, if_false, not_true_eq_false, not_false_eq_true, true_implies, false_implies, implies_true, and_true, true_and], by simp only [P_M_arrive, e1, y1, hvs, eq_self, one0, if_true, if_false, not_true_eq_false, not_false_eq_true, true_implies, false_implies, implies_true, and_true, true_and], ?_⟩
    have eV : B_V_arrive fz 1 (nI (1, s, x).1) (sbj (1, s, x)) (vlu (1, s, x)) v = B_L_add fz 1 (nI s) v := by simp only [B_V_arrive, e1, y1, eq_self, one0, if_true, if_false, not_true_eq_false, not_false_eq_true, true_implies, false_implies, implies_true, and_true, true_and]
    have eM : B_M_arrive fz (nI 0) (nI (1, s, x).1) (sbj (1, s, x)) (vlu (1, s, x)) m = u2 m 33 s 1 := by simp only [B_M_arrive, e1, y1, hxs, eq_self, one0, if_true, if_false, not_true_eq_false, not_false_eq_true, true_implies, false_implies, implies_true, and_true, true_and]
    rw [eV, eM]
    have nB : IN n own blk ft 1 (sc 12 1) (mp 1) (un 1) (PL (q 0) (wt 0 ++ [s]) tl) := by
      have e : PL (q 0) (wt 0 ++ [s]) tl = PL (q 0) (wt 0) ((1, s, x) :: tl) := by
        unfold PL wmp
        rw [ef, List.map_append, List.append_assoc]
        rfl
      rw [e]
      exact jN1
    have nC : IN n own blk ft 0 (sc 12 0) (mp 0) (un 0) (PL tl (wt 1) (q 0)) := jN0
    have nR : IR (wt 0 ++ [s]) tl := by
      unfold IR at jR1 ⊢
      rw [ed] at jR1
      rw [List.append_assoc]
      exact jR1
    have nW : IW n own (wt 0 ++ [s]) (wt 1) (ug wx s true) := by
      intro y h1 h2
      unfold ug
      by_cases ey : y = s
      · subst ey
        rw [if_pos rfl]
        exact ⟨fun _ => ⟨g2, Or.inl ⟨g3, List.mem_append_right _ List.mem_cons_self⟩⟩, fun _ => rfl⟩
      · rw [if_neg ey, jW y h1 h2, List.mem_append, List.mem_singleton]
        simp only [ey, or_false]
    exact ⟨n, own, blk, ep, ft, sc, lk, gr, mp, un, ug q 1 tl, ug wt 0 (wt 0 ++ [s]), ug wx s true, lg, us, pv, r2, jT, jG, nC, nB, jQ0, jQt, jR0, nR, nW, jC, fun r => absurd r hlk, jE⟩
  · have e1 : sbj (2, s, x) = nI s := rfl
    have ef : fwd ((2, s, x) :: tl) = fwd tl := rfl
    have eb : bck ((2, s, x) :: tl) = (0, s) :: bck tl := rfl
    have ed : dat ((2, s, x) :: tl) = dat tl := rfl
    have ePL : PL ((2, s, x) :: tl) (wt 1) (q 0) = (0, s) :: PL tl (wt 1) (q 0) := rfl
    rw [ePL] at iN0 jN0
    obtain ⟨⟨g1, g2⟩, g3, g4⟩ := (iN0.2.2.1 s).mp List.mem_cons_self
    obtain ⟨o1, o2, o3, o4⟩ := iT.2 s g1 g2
    have hxs : ix (nI s) = s := nI_clamp (by omega)
    have hvs : vp_in (nI s) 301 := vp_in_nI (by omega) (by decide)
    have y2 : nI 2 = (2 : Int32) := li2.symm
    have n21 : ¬ (2 : Int32) = 1 := by decide
    have r1 := r_ft hR g1 g2 2 li2
    have jT' : IT n own blk ep (ug ft s 2) := ⟨jT.1, fun w h1 h2 => ⟨(jT.2 w h1 h2).1, (jT.2 w h1 h2).2.1, (jT.2 w h1 h2).2.2.1, by
      unfold ug
      split
      · decide
      · exact (jT.2 w h1 h2).2.2.2⟩⟩
    have nB : IN n own blk (ug ft s 2) 1 (sc 12 1) (mp 1) (un 1) (PL (q 0) (wt 0) tl) := jN1.fates (fun w h1 h2 h3 => by
      unfold ug
      by_cases ew : w = s
      · subst ew
        omega
      · rw [if_neg ew])
    have q12 : (u2 v 26 s 2) 1 12 = sc 12 0 := by
      obtain ⟨z0, z1, z2, z3, z4, z5, z6, z7, z8, z9, z10, z11, z12, z13, z14, z15, z16⟩ := hS0
      exact z7
    have m44 : (u2 m 32 s 2) 44 0 = sc 12 0 := by
      obtain ⟨z0, z1, z2, z3, z4, z5, z6, z7, z8, z9, z10, z11, z12, z13, z14, z15, z16⟩ := hS0
      exact z15
    obtain ⟨⟨t1, t2, t3, t4, t5⟩, f1, f2, f3, f4⟩ := hT.2.2.2.2 s g1 g2
    have v23 : (u2 v 26 s 2) 23 s = nI (blk s) := t2
    have m29 : (u2 m 32 s 2) 29 s = nI (blk s) := f2
    by_cases hs : sc 12 0 = 0
    · refine ⟨by simp only [P_V_arrive, P_V_takeAck, P_V_takeAck_10, e1, y2, n21, hxs, hvs, q12, hs, eq_self, one0, if_true, if_false, not_true_eq_false, not_false_eq_true, true_implies, false_implies, implies_true, and_true, true_and], by simp only [P_M_arrive, P_M_arrive_27, e1, y2, n21, hxs, hvs, hxc, hvc, m44, hs, eq_self, one0, if_true, if_false, not_true_eq_false, not_false_eq_true, true_implies, false_implies, implies_true, and_true, true_and], ?_⟩
      have eV : B_V_arrive fz 1 (nI (2, s, x).1) (sbj (2, s, x)) (vlu (2, s, x)) v = u2 v 26 s 2 := by simp only [B_V_arrive, B_V_takeAck, B_V_takeAck_10, e1, y2, n21, hxs, q12, hs, eq_self, one0, if_true, if_false, not_true_eq_false, not_false_eq_true, true_implies, false_implies, implies_true, and_true, true_and]
      have eM : B_M_arrive fz (nI 0) (nI (2, s, x).1) (sbj (2, s, x)) (vlu (2, s, x)) m = u2 m 32 s 2 := by simp only [B_M_arrive, B_M_arrive_27, e1, y2, n21, hxs, hxc, m44, hs, eq_self, one0, if_true, if_false, not_true_eq_false, not_false_eq_true, true_implies, false_implies, implies_true, and_true, true_and]
      rw [eV, eM]
      have nC := jN0.pop0 (mp' := mp 0) (fun j h1 _ h => h)
      exact ⟨n, own, blk, ep, ug ft s 2, sc, lk, gr, mp, un, ug q 1 tl, wt, wx, lg, us, pv, r1, jT', jG, nC, nB, jQ0, jQt, jR0, jR1, jW, jC, fun r => absurd r hlk, jE⟩
    · have r2 := r_mapclr_0 r1 o2
      have nC := jN0.pop0 (mp' := fun k => mp 0 k && !decide (k = blk s)) (fun j _ h2 h3 => by simp [h2, h3])
      have hI1 : Inv (t + 1) n own blk ep (ug ft s 2) sc lk gr (ug mp 0 (fun k => mp 0 k && !decide (k = blk s))) un (ug q 1 tl) wt wx pv := ⟨jT', jG, nC, nB, jQ0, jQt, jR0, jR1, jW, jC, fun r => absurd r hlk, jE⟩
      have hroom := Inv_room_0 hI1 hs
      obtain ⟨hE1, hE2⟩ := r_endif_0 fz hz hn (fun w h1 h2 => ⟨(jT'.2 w h1 h2).1, (jT'.2 w h1 h2).2.2.2⟩) r2 hroom
      have hx64 : ix (nI (32 * 0 + blk s)) = 32 * 0 + blk s := nI_clamp (by omega)
      have hv64 : vp_in (nI (32 * 0 + blk s)) 64 := vp_in_nI (by omega) (by decide)
      by_cases hE : ∀ j, j < 32 → ug mp 0 (fun k => mp 0 k && !decide (k = blk s)) 0 j = false
      · obtain ⟨w1, w2, w3, w4⟩ := hE1 hE
        refine ⟨by simp only [P_V_arrive, P_V_takeAck, P_V_takeAck_10, P_V_takeFromMap, P_V_takeFromMap_14, e1, y2, n21, hxs, hvs, q12, hs, v23, w1, w2, eq_self, one0, if_true, if_false, not_true_eq_false, not_false_eq_true, true_implies, false_implies, implies_true, and_true, true_and], by simp only [P_M_arrive, P_M_arrive_27, P_M_arrive_53, e1, y2, n21, hxs, hvs, hxc, hvc, m44, hs, m29, x32, hx64, hv64, w3, eq_self, one0, if_true, if_false, not_true_eq_false, not_false_eq_true, true_implies, false_implies, implies_true, and_true, true_and], ?_⟩
        simp only [B_V_arrive, B_V_takeAck, B_V_takeAck_10, B_V_takeFromMap, B_V_takeFromMap_14, B_M_arrive, B_M_arrive_27, B_M_arrive_53, e1, y2, n21, hxs, hxc, q12, m44, hs, v23, m29, x32, hx64, w1, eq_self, one0, if_true, if_false, not_true_eq_false, not_false_eq_true, true_implies, false_implies, implies_true, and_true, true_and]
        exact ⟨_, _, _, _, _, _, _, _, _, _, _, _, _, lg, us, _, w4, Inv_end_0 hI1 hs hE hlk⟩
      · obtain ⟨w1, w2, w3⟩ := hE2 hE
        refine ⟨by simp only [P_V_arrive, P_V_takeAck, P_V_takeAck_10, P_V_takeFromMap, P_V_takeFromMap_14, e1, y2, n21, hxs, hvs, q12, hs, v23, w1, eq_self, one0, if_true, if_false, not_true_eq_false, not_false_eq_true, true_implies, false_implies, implies_true, and_true, true_and], by simp only [P_M_arrive, P_M_arrive_27, P_M_arrive_53, e1, y2, n21, hxs, hvs, hxc, hvc, m44, hs, m29, x32, hx64, hv64, w2, eq_self, one0, if_true, if_false, not_true_eq_false, not_false_eq_true, true_implies, false_implies, implies_true, and_true, true_and], ?_⟩
        simp only [B_V_arrive, B_V_takeAck, B_V_takeAck_10, B_V_takeFromMap, B_V_takeFromMap_14, B_M_arrive, B_M_arrive_27, B_M_arrive_53, e1, y2, n21, hxs, hxc, q12, m44, hs, v23, m29, x32, hx64, w1, w3, eq_self, one0, if_true, if_false, not_true_eq_false, not_false_eq_true, true_implies, false_implies, implies_true, and_true, true_and]
        exact ⟨_, _, _, _, _, _, _, _, _, _, _, _, _, lg, us, _, r2, hI1⟩
  · have e1 : sbj (3, s, x) = nI s := rfl
    have e2 : vlu (3, s, x) = x := rfl
    have ef : fwd ((3, s, x) :: tl) = (1, s) :: fwd tl := rfl
    have eb : bck ((3, s, x) :: tl) = bck tl := rfl
    have hmem : (1, s) ∈ PL (q 0) (wt 0) ((3, s, x) :: tl) := List.mem_append_right _ (List.mem_append_right _ (by rw [ef]; exact List.mem_cons_self))
    obtain ⟨g1, g2, g3⟩ := iN1.2.2.2.1 s hmem
    have hxs : ix (nI s) = s := nI_clamp (by omega)
    have hvs : vp_in (nI s) 32 := vp_in_nI (by omega) (by decide)
    have hx64 : ix (nI (32 * 0 + s)) = 32 * 0 + s := nI_clamp (by omega)
    have hv64 : vp_in (nI (32 * 0 + s)) 64 := vp_in_nI (by omega) (by decide)
    have y3 : nI 3 = (3 : Int32) := li3.symm
    have n31 : ¬ (3 : Int32) = 1 := by decide
    have n32 : ¬ (3 : Int32) = 2 := by decide
    have r1 := r_disk_0 hR g1 x
    have hroom : (q 0).length < 25 := by
      have h1 := iN1.both
      have h2 := iN0.both
      rw [ef, List.length_cons] at h1
      exact qroom iQ0 (by omega)
    obtain ⟨p1, p2, r2⟩ := r_send_0 fz r1 hroom (4, s, 0) (k := 4) (s := nI s) (x := 0) (k2 := 4) (s2 := nI s) (x2 := 0) li4 rfl rfl li4 rfl rfl
    refine ⟨by simp only [P_V_arrive, P_V_arrive_64, e1, e2, y3, n31, n32, hxs, hvs, p1, eq_self, one0, if_true, if_false, not_true_eq_false, not_false_eq_true, true_implies, false_implies, implies_true, and_true, true_and], by simp only [P_M_arrive, P_M_arrive_79, e1, e2, y3, n31, n32, x32, hx64, hv64, p2, eq_self, one0, if_true, if_false, not_true_eq_false, not_false_eq_true, true_implies, false_implies, implies_true, and_true, true_and], ?_⟩
    simp only [B_V_arrive, B_V_arrive_64, B_M_arrive, B_M_arrive_79, e1, e2, y3, n31, n32, hxs, x32, hx64, eq_self, one0, if_true, if_false, not_true_eq_false, not_false_eq_true, true_implies, false_implies, implies_true, and_true, true_and]
    have eb4 : bck (q 0 ++ [(4, s, 0)]) = bck (q 0) ++ [(1, s)] := bck_app _ _
    have ef4 : fwd (q 0 ++ [(4, s, 0)]) = fwd (q 0) := (fwd_app _ _).trans (List.append_nil _)
    have ed4 : dat (q 0 ++ [(4, s, 0)]) = dat (q 0) := (dat_app _ _).trans (List.append_nil _)
    have nB : IN n own blk ft 1 (sc 12 1) (mp 1) (un 1) (PL (q 0 ++ [(4, s, 0)]) (wt 0) tl) := by
      have hp := jN1
      unfold PL at hp ⊢
      rw [ef] at hp
      rw [eb4]
      exact hp.perm copy_perm (copy_order hp.2.2.2.2.1)
    have nC : IN n own blk ft 0 (sc 12 0) (mp 0) (un 0) (PL tl (wt 1) (q 0 ++ [(4, s, 0)])) := by
      have hp := jN0
      unfold PL at hp ⊢
      rw [ef4]
      exact hp
    have nR : IR (wt 1) (q 0 ++ [(4, s, 0)]) := by
      unfold IR
      rw [ed4]
      exact jR0
    exact ⟨_, _, _, _, _, _, _, _, _, _, _, _, _, lg, us, _, r2, jT, jG, nC, nB, jQ0.snoc (show 1 ≤ 4 by decide) (show 4 < 5 by decide), jQt, nR, jR1, jW, jC, fun r => absurd r hlk, jE⟩
  · have e1 : sbj (4, s, x) = nI s := rfl
    have ePL : PL ((4, s, x) :: tl) (wt 1) (q 0) = (1, s) :: PL tl (wt 1) (q 0) := rfl
    rw [ePL] at iN0 jN0
    obtain ⟨g1, g2, g3⟩ := iN0.2.2.2.1 s List.mem_cons_self
    have hxs : ix (nI s) = s := nI_clamp (by omega)
    have hx64 : ix (nI (32 * 0 + s)) = 32 * 0 + s := nI_clamp (by omega)
    have hv64 : vp_in (nI (32 * 0 + s)) 64 := vp_in_nI (by omega) (by decide)
    have y4 : nI 4 = (4 : Int32) := li4.symm
    have n41 : ¬ (4 : Int32) = 1 := by decide
    have n42 : ¬ (4 : Int32) = 2 := by decide
    have n43 : ¬ (4 : Int32) = 3 := by decide
    have r2 := r_mapclr_0 (r_un_0 hR (v 1 14 &&& (((1 : Int32) <<< (nI s &&& 31)) ^^^ (-1 : Int32)))) g1
    have nC : IN n own blk ft 0 (sc 12 0) (fun k => mp 0 k && !decide (k = s)) (bt (v 1 14 &&& (((1 : Int32) <<< (nI s &&& 31)) ^^^ (-1 : Int32)))) (PL tl (wt 1) (q 0)) := (jN0.pop1 (mp' := fun k => mp 0 k && !decide (k = s)) (fun j h1 h2 => by simp [h1, h2])).congrU (fun j hj => by rw [bt_clr _ g1 hj, hU0 j hj]) (fun _ _ => rfl)
    have hI1 : Inv (t + 1) n own blk ep ft sc lk gr (ug mp 0 (fun k => mp 0 k && !decide (k = s))) (ug un 0 (bt (v 1 14 &&& (((1 : Int32) <<< (nI s &&& 31)) ^^^ (-1 : Int32))))) (ug q 1 tl) wt wx pv := ⟨jT, jG, nC, jN1, jQ0, jQt, jR0, jR1, jW, jC, fun r => absurd r hlk, jE⟩
    have hroom := Inv_room_0 hI1 g3
    obtain ⟨hE1, hE2⟩ := r_endif_0 fz hz hn (fun w h1 h2 => ⟨(jT.2 w h1 h2).1, (jT.2 w h1 h2).2.2.2⟩) r2 hroom
    by_cases hE : ∀ j, j < 32 → ug mp 0 (fun k => mp 0 k && !decide (k = s)) 0 j = false
    · obtain ⟨w1, w2, w3, w4⟩ := hE1 hE
      refine ⟨by simp only [P_V_arrive, P_V_arrive_91, P_V_takeFromMap, P_V_takeFromMap_14, e1, y4, n41, n42, n43, w1, w2, eq_self, one0, if_true, if_false, not_true_eq_false, not_false_eq_true, true_implies, false_implies, implies_true, and_true, true_and], by simp only [P_M_arrive, P_M_arrive_107, e1, y4, n41, n42, n43, x32, hx64, hv64, w3, eq_self, one0, if_true, if_false, not_true_eq_false, not_false_eq_true, true_implies, false_implies, implies_true, and_true, true_and], ?_⟩
      simp only [B_V_arrive, B_V_arrive_91, B_V_takeFromMap, B_V_takeFromMap_14, B_M_arrive, B_M_arrive_107, e1, y4, n41, n42, n43, x32, hx64, w1, eq_self, one0, if_true, if_false, not_true_eq_false, not_false_eq_true, true_implies, false_implies, implies_true, and_true, true_and]
      exact ⟨_, _, _, _, _, _, _, _, _, _, _, _, _, lg, us, _, w4, Inv_end_0 hI1 g3 hE hlk⟩
    · obtain ⟨w1, w2, w3⟩ := hE2 hE
      refine ⟨by simp only [P_V_arrive, P_V_arrive_91, P_V_takeFromMap, P_V_takeFromMap_14, e1, y4, n41, n42, n43, w1, eq_self, one0, if_true, if_false, not_true_eq_false, not_false_eq_true, true_implies, false_implies, implies_true, and_true, true_and], by simp only [P_M_arrive, P_M_arrive_107, e1, y4, n41, n42, n43, x32, hx64, hv64, w2, eq_self, one0, if_true, if_false, not_true_eq_false, not_false_eq_true, true_implies, false_implies, implies_true, and_true, true_and], ?_⟩
      simp only [B_V_arrive, B_V_arrive_91, B_V_takeFromMap, B_V_takeFromMap_14, B_M_arrive, B_M_arrive_107, e1, y4, n41, n42, n43, x32, hx64, w1, w3, eq_self, one0, if_true, if_false, not_true_eq_false, not_false_eq_true, true_implies, false_implies, implies_true, and_true, true_and]
      exact ⟨_, _, _, _, _, _, _, _, _, _, _, _, _, lg, us, _, r2, hI1⟩
  · have e1 : sbj (5, s, x) = x := rfl
    obtain ⟨hx0, z0, z1⟩ := iQ1.2.1 (5, s, x) List.mem_cons_self rfl
    have y5 : nI 5 = (5 : Int32) := li5.symm
    have n51 : ¬ (5 : Int32) = 1 := by decide
    have n52 : ¬ (5 : Int32) = 2 := by decide
    have n53 : ¬ (5 : Int32) = 3 := by decide
    have n54 : ¬ (5 : Int32) = 4 := by decide
    have r1 := r_set_7_0 (r_set_6_0 (r_mapall_0 (X := 0) (f := fun _ => 0) (r_set_9_0 (r_set_8_0 (r_set_13_0 hR 0) 0) 0) (fun j _ => by rw [b_0]; rfl)) x) 0
    have cm := cv_finish fz hz (b := 0) (by decide) x (u2 (u2 (u2 m 45 0 0) 40 0 0) 41 0 0)
    refine ⟨by simp only [P_V_arrive, P_N_takeFinish, e1, y5, n51, n52, n53, n54, eq_self, one0, if_true, if_false, not_true_eq_false, not_false_eq_true, true_implies, false_implies, implies_true, and_true, true_and], by simp only [P_M_arrive, e1, y5, n51, n52, n53, n54, hxc, hvc, cm, eq_self, one0, if_true, if_false, not_true_eq_false, not_false_eq_true, true_implies, false_implies, implies_true, and_true, true_and], ?_⟩
    simp only [B_V_arrive, B_N_takeFinish, B_M_arrive, e1, y5, n51, n52, n53, n54, hxc, cm, eq_self, one0, if_true, if_false, not_true_eq_false, not_false_eq_true, true_implies, false_implies, implies_true, and_true, true_and]
    obtain ⟨c1, c2, c3, c4, c5, c6, c7, c8⟩ := jC
    have nC : IN n own blk ft 0 (sc 12 0) (bt 0) (un 0) (PL tl (wt 1) (q 0)) := jN0.marks (fun j hj => absurd z0 (jN0.2.2.2.1 j hj).2.2)
    refine ⟨_, _, _, _, _, _, _, _, _, _, _, _, _, lg, us, _, r1, jT, jG, nC, jN1, jQ0, jQt, jR0, jR1, jW, ?_, fun r => absurd r hlk, jE⟩
    exact ⟨fun r => absurd r hx0, c2, fun r => r.1 rfl, fun _ => rfl, c5, c6, Or.inl rfl, c8⟩
theorem S_deliver (fz : Nat) (hz : 400 ≤ fz) {t : Nat} (ht : t ≤ 600) {v m : HH} (hJ : J2 t v m) (x : Int32) : P_V_deliver fz x v ∧ P_M_deliver fz x m ∧ RS t (B_V_deliver fz x v) (B_M_deliver fz x m) := by
  rcases ndc x with ⟨h0, h1⟩ | rfl | rfl
  · have eV : B_V_deliver fz x v = (0, v) := by simp only [B_V_deliver, vN_n fz v h0 h1, eq_self, one0, if_true, if_false, not_true_eq_false, not_false_eq_true, true_implies, false_implies, implies_true, and_true, true_and]
    have eM : B_M_deliver fz x m = (0, m) := by simp only [B_M_deliver, mN_n fz m h0 h1, eq_self, one0, if_true, if_false, not_true_eq_false, not_false_eq_true, true_implies, false_implies, implies_true, and_true, true_and]
    refine ⟨by simp only [P_V_deliver, pT_isNode, vN_n fz v h0 h1, eq_self, one0, if_true, if_false, not_true_eq_false, not_false_eq_true, true_implies, false_implies, implies_true, and_true, true_and], by simp only [P_M_deliver, pT_isNodeM, mN_n fz m h0 h1, eq_self, one0, if_true, if_false, not_true_eq_false, not_false_eq_true, true_implies, false_implies, implies_true, and_true, true_and], ?_⟩
    rw [eV, eM]
    exact RS.same hJ _
  · have hJ0 := hJ
    obtain ⟨n, own, blk, ep, ft, sc, lk, gr, mp, un, q, wt, wx, lg, us, pv, hR, hI⟩ := hJ
    have hR' := hR
    obtain ⟨hL, hT, hX, hS0, hM0, hD0, hR0, hA0, hW0, hG0, hU0, hE0, hS1, hM1, hD1, hR1, hA1, hW1, hG1, hU1, hE1⟩ := hR'
    have hI' := hI
    obtain ⟨iT, iG, iN0, iN1, iQ0, iQ1, iR0, iR1, iW, iC, iK, iE⟩ := hI'
    obtain ⟨s0a, s1a, s2a, s3a, s4a, s5a, s6a, s7a, s8a, s9a, s10a, s11a, s12a, s13a, s14a, s15a, s16a⟩ := hS0
    obtain ⟨s0b, s1b, s2b, s3b, s4b, s5b, s6b, s7b, s8b, s9b, s10b, s11b, s12b, s13b, s14b, s15b, s16b⟩ := hS1
    obtain ⟨l1, l2, l3, l4⟩ := hL
    obtain ⟨g, g1, g2, g3, g4, g5⟩ := hR0
    have g4' : v (1 + 4) 4 = nI (q 0).length := g4
    cases hq : q 0 with
    | nil =>
      have a1 : v (1 + 4) 4 = 0 := by rw [g4', hq]; exact li0.symm
      have a2 : m 51 0 = 0 := by rw [hA0.1, hq]; exact li0.symm
      have eV : B_V_deliver fz (nI 0) v = (0, v) := by simp only [B_V_deliver, vN_0, mN_0, nO_0, pO_0, ixb_0, vpb_0, om_0, ixb_1, vpb_1, a1, a2, eq_self, one0, if_true, if_false, not_true_eq_false, not_false_eq_true, true_implies, false_implies, implies_true, and_true, true_and]
      have eM : B_M_deliver fz (nI 0) m = (0, m) := by simp only [B_M_deliver, vN_0, mN_0, nO_0, pO_0, ixb_0, vpb_0, om_0, ixb_1, vpb_1, a1, a2, eq_self, one0, if_true, if_false, not_true_eq_false, not_false_eq_true, true_implies, false_implies, implies_true, and_true, true_and]
      refine ⟨by simp only [P_V_deliver, pT_isNode, pT_nodeOf, pT_peerOf, vN_0, mN_0, nO_0, pO_0, ixb_0, vpb_0, om_0, ixb_1, vpb_1, a1, a2, eq_self, one0, if_true, if_false, not_true_eq_false, not_false_eq_true, true_implies, false_implies, implies_true, and_true, true_and], by simp only [P_M_deliver, pT_isNodeM, vN_0, mN_0, nO_0, pO_0, ixb_0, vpb_0, om_0, ixb_1, vpb_1, a1, a2, eq_self, one0, if_true, if_false, not_true_eq_false, not_false_eq_true, true_implies, false_implies, implies_true, and_true, true_and], ?_⟩
      rw [eV, eM]
      exact RS.same hJ0 _
    | cons a tl =>
      obtain ⟨d1, ⟨d2, d3, d4, d5⟩, ⟨d6, d7, d8⟩, ⟨d9, d10⟩, ⟨d11, d12, d13⟩, r⟩ := r_drop_0 fz hR hq
      obtain ⟨p1, p2, hJ'⟩ := arr_0 fz hz ht hI hq r
      have a1 : ¬ v (1 + 4) 4 = 0 := by
        have d9' : v (1 + 4) 4 = nI (tl.length + 1) := d9
        rw [d9']
        exact nI_ne0 (by omega) (by omega)
      have a2 : ¬ nI (tl.length + 1) = 0 := nI_ne0 (by omega) (by omega)
      have hx64 : ix (nI (64 * 0)) = 64 * 0 := nI_clamp (by decide)
      have hv64 : vp_in (nI (64 * 0)) 128 := vp_in_nI (by decide) (by decide)
      have cm := cf_deliver fz (b := 0) (by decide) (c := tl.length) (by omega) (nI a.1) (sbj a) (vlu a) tl.length fz 0 (u2 m 51 0 (nI tl.length)) (by omega) (by omega) rfl p2
      have eV : B_V_deliver fz (nI 0) v = (nI a.1, B_V_arrive fz 11 (nI a.1) (sbj a) (vlu a) (B_O_dropFirst fz 1 v)) := by simp only [B_V_deliver, B_V_deliver_48, vN_0, mN_0, nO_0, pO_0, ixb_0, vpb_0, om_0, ixb_1, vpb_1, a1, d6, d7, d8, eq_self, one0, if_true, if_false, not_true_eq_false, not_false_eq_true, true_implies, false_implies, implies_true, and_true, true_and]
      have eM : B_M_deliver fz (nI 0) m = (nI a.1, B_M_arrive fz (nI 1) (nI a.1) (sbj a) (vlu a) (sh3 (64 * 0) (64 * 0 + tl.length) (u2 m 51 0 (nI tl.length)))) := by
        simp only [B_M_deliver, B_M_deliver_56, vN_0, mN_0, nO_0, pO_0, ixb_0, vpb_0, om_0, ixb_1, vpb_1, d10, a2, x64', hx64, d11, d12, d13, nI_pred, eq_self, one0, if_true, if_false, not_true_eq_false, not_false_eq_true, true_implies, false_implies, implies_true, and_true, true_and]
        exact cm.2
      have pM : P_M_deliver fz (nI 0) m := by
        simp only [P_M_deliver, P_M_deliver_56, pT_isNodeM, vN_0, mN_0, nO_0, pO_0, ixb_0, vpb_0, om_0, ixb_1, vpb_1, d10, a2, x64', hx64, hv64, d11, d12, d13, nI_pred, eq_self, one0, if_true, if_false, not_true_eq_false, not_false_eq_true, true_implies, false_implies, implies_true, and_true, true_and]
        exact cm.1
      refine ⟨by simp only [P_V_deliver, P_V_deliver_48, pT_isNode, pT_nodeOf, pT_peerOf, vN_0, mN_0, nO_0, pO_0, ixb_0, vpb_0, om_0, ixb_1, vpb_1, a1, d2, d3, d4, d5, d6, d7, d8, p1, eq_self, one0, if_true, if_false, not_true_eq_false, not_false_eq_true, true_implies, false_implies, implies_true, and_true, true_and], pM, ?_⟩
      rw [eV, eM]
      exact ⟨rfl, hJ'⟩
  · have hJ0 := hJ
    obtain ⟨n, own, blk, ep, ft, sc, lk, gr, mp, un, q, wt, wx, lg, us, pv, hR, hI⟩ := hJ
    have hR' := hR
    obtain ⟨hL, hT, hX, hS0, hM0, hD0, hR0, hA0, hW0, hG0, hU0, hE0, hS1, hM1, hD1, hR1, hA1, hW1, hG1, hU1, hE1⟩ := hR'
    have hI' := hI
    obtain ⟨iT, iG, iN0, iN1, iQ0, iQ1, iR0, iR1, iW, iC, iK, iE⟩ := hI'
    obtain ⟨s0a, s1a, s2a, s3a, s4a, s5a, s6a, s7a, s8a, s9a, s10a, s11a, s12a, s13a, s14a, s15a, s16a⟩ := hS0
    obtain ⟨s0b, s1b, s2b, s3b, s4b, s5b, s6b, s7b, s8b, s9b, s10b, s11b, s12b, s13b, s14b, s15b, s16b⟩ := hS1
    obtain ⟨l1, l2, l3, l4⟩ := hL
    obtain ⟨g, g1, g2, g3, g4, g5⟩ := hR1
    have g4' : v (11 + 4) 4 = nI (q 1).length := g4
    cases hq : q 1 with
    | nil =>
      have a1 : v (11 + 4) 4 = 0 := by rw [g4', hq]; exact li0.symm
      have a2 : m 51 1 = 0 := by rw [hA1.1, hq]; exact li0.symm
      have eV : B_V_deliver fz (nI 1) v = (0, v) := by simp only [B_V_deliver, vN_1, mN_1, nO_1, pO_1, ixb_1, vpb_1, om_1, ixb_0, vpb_0, a1, a2, eq_self, one0, if_true, if_false, not_true_eq_false, not_false_eq_true, true_implies, false_implies, implies_true, and_true, true_and]
      have eM : B_M_deliver fz (nI 1) m = (0, m) := by simp only [B_M_deliver, vN_1, mN_1, nO_1, pO_1, ixb_1, vpb_1, om_1, ixb_0, vpb_0, a1, a2, eq_self, one0, if_true, if_false, not_true_eq_false, not_false_eq_true, true_implies, false_implies, implies_true, and_true, true_and]
      refine ⟨by simp only [P_V_deliver, pT_isNode, pT_nodeOf, pT_peerOf, vN_1, mN_1, nO_1, pO_1, ixb_1, vpb_1, om_1, ixb_0, vpb_0, a1, a2, eq_self, one0, if_true, if_false, not_true_eq_false, not_false_eq_true, true_implies, false_implies, implies_true, and_true, true_and], by simp only [P_M_deliver, pT_isNodeM, vN_1, mN_1, nO_1, pO_1, ixb_1, vpb_1, om_1, ixb_0, vpb_0, a1, a2, eq_self, one0, if_true, if_false, not_true_eq_false, not_false_eq_true, true_implies, false_implies, implies_true, and_true, true_and], ?_⟩
      rw [eV, eM]
      exact RS.same hJ0 _
    | cons a tl =>
      obtain ⟨d1, ⟨d2, d3, d4, d5⟩, ⟨d6, d7, d8⟩, ⟨d9, d10⟩, ⟨d11, d12, d13⟩, r⟩ := r_drop_1 fz hR hq
      obtain ⟨p1, p2, hJ'⟩ := arr_1 fz hz ht hI hq r
      have a1 : ¬ v (11 + 4) 4 = 0 := by
        have d9' : v (11 + 4) 4 = nI (tl.length + 1) := d9
        rw [d9']
        exact nI_ne0 (by omega) (by omega)
      have a2 : ¬ nI (tl.length + 1) = 0 := nI_ne0 (by omega) (by omega)
      have hx64 : ix (nI (64 * 1)) = 64 * 1 := nI_clamp (by decide)
      have hv64 : vp_in (nI (64 * 1)) 128 := vp_in_nI (by decide) (by decide)
      have cm := cf_deliver fz (b := 1) (by decide) (c := tl.length) (by omega) (nI a.1) (sbj a) (vlu a) tl.length fz 0 (u2 m 51 1 (nI tl.length)) (by omega) (by omega) rfl p2
      have eV : B_V_deliver fz (nI 1) v = (nI a.1, B_V_arrive fz 1 (nI a.1) (sbj a) (vlu a) (B_O_dropFirst fz 11 v)) := by simp only [B_V_deliver, B_V_deliver_48, vN_1, mN_1, nO_1, pO_1, ixb_1, vpb_1, om_1, ixb_0, vpb_0, a1, d6, d7, d8, eq_self, one0, if_true, if_false, not_true_eq_false, not_false_eq_true, true_implies, false_implies, implies_true, and_true, true_and]
      have eM : B_M_deliver fz (nI 1) m = (nI a.1, B_M_arrive fz (nI 0) (nI a.1) (sbj a) (vlu a) (sh3 (64 * 1) (64 * 1 + tl.length) (u2 m 51 1 (nI tl.length)))) := by
        simp only [B_M_deliver, B_M_deliver_56, vN_1, mN_1, nO_1, pO_1, ixb_1, vpb_1, om_1, ixb_0, vpb_0, d10, a2, x64', hx64, d11, d12, d13, nI_pred, eq_self, one0, if_true, if_false, not_true_eq_false, not_false_eq_true, true_implies, false_implies, implies_true, and_true, true_and]
        exact cm.2
      have pM : P_M_deliver fz (nI 1) m := by
        simp only [P_M_deliver, P_M_deliver_56, pT_isNodeM, vN_1, mN_1, nO_1, pO_1, ixb_1, vpb_1, om_1, ixb_0, vpb_0, d10, a2, x64', hx64, hv64, d11, d12, d13, nI_pred, eq_self, one0, if_true, if_false, not_true_eq_false, not_false_eq_true, true_implies, false_implies, implies_true, and_true, true_and]
        exact cm.1
      refine ⟨by simp only [P_V_deliver, P_V_deliver_48, pT_isNode, pT_nodeOf, pT_peerOf, vN_1, mN_1, nO_1, pO_1, ixb_1, vpb_1, om_1, ixb_0, vpb_0, a1, d2, d3, d4, d5, d6, d7, d8, p1, eq_self, one0, if_true, if_false, not_true_eq_false, not_false_eq_true, true_implies, false_implies, implies_true, and_true, true_and], pM, ?_⟩
      rw [eV, eM]
      exact ⟨rfl, hJ'⟩
