theorem IN.split {n : Nat} {own blk ft : Nat → Nat} {b : Nat} {src : Int32} {mpb unb : Nat → Bool} {L : List (Nat × Nat)} (h : IN n own blk ft b src mpb unb L) : L.length = (L.filter (fun x => x.1 == 1)).length + (L.filter (fun x => x.1 == 0)).length := by
  obtain ⟨h1, h2, -⟩ := h
  clear h1
  induction L with
  | nil => rfl
  | cons x L ih =>
    have ih := ih (fun y hy => h2 y (List.mem_cons_of_mem _ hy))
    have hx := h2 x List.mem_cons_self
    rw [List.length_cons, List.filter_cons, List.filter_cons]
    rcases (show x.1 = 0 ∨ x.1 = 1 by omega) with e | e <;> simp [e] <;> omega
theorem alone_32 (fz : Nat) {w : Nat} (hw : w ≤ 300) (h : HH) (x : Int32) : B_M_alone fz (nI w) (u2 h 32 w x) = B_M_alone fz (nI w) h ∧ (P_M_alone fz (nI w) (u2 h 32 w x) → P_M_alone fz (nI w) h) := by
  have hxw : ix (nI w) = w := nI_clamp (by omega)
  have e28 : (u2 h 32 w x) 28 w = h 28 w := rfl
  refine ⟨?_, fun hp => ?_⟩
  · simp only [B_M_alone, hxw, u2_u2, e28]
  · simp only [P_M_alone, hxw, u2_u2, e28] at hp ⊢
    exact hp
theorem dat_fwd {l : List MSG} {w : Nat} (h : w ∈ dat l) : (0, w) ∈ fwd l := by
  unfold dat at h
  unfold fwd
  obtain ⟨a, ha, hw⟩ := List.mem_filterMap.mp h
  refine List.mem_filterMap.mpr ⟨a, ha, ?_⟩
  by_cases c : a.1 = 1
  · rw [if_pos c] at hw ⊢
    rw [Option.some.inj hw]
  · rw [if_neg c] at hw
    cases hw
theorem w_end_0 (fz : Nat) (hz : 400 ≤ fz) {t : Nat} (ht : t ≤ 600) {n : Nat} {own blk ep ft : Nat → Nat} {sc : HH} {lk gr : Int32} {mp un : Nat → Nat → Bool} {q : Nat → List MSG} {wt : Nat → List Nat} {wx : Nat → Bool} {pv : Nat → Nat} {v1 m1 : HH} {n1 : Nat} {own1 blk1 ep1 ft1 : Nat → Nat} {lg1 : Nat → List Nat} {us1 : Nat → Nat → Nat} {pv1 : Nat → Nat} {j E : Nat} (hI : Inv t n own blk ep ft sc lk gr mp un q wt wx pv) (hn : n < 300) (hj : j < 32) (hc : cnP n own ft 0 < 8) (hE : E ≤ n + 1) (hE2 : ∀ w, 1 ≤ w → w ≤ n → own w = 0 → ep w ≤ E) (a1 : n1 = n + 1) (a2 : own1 = ug own (n + 1) 0) (a3 : blk1 = ug blk (n + 1) j) (a4 : ep1 = ug ep (n + 1) E) (a5 : ft1 = ug ft (n + 1) 1) (a6 : pv1 = ug pv 0 (n + 1)) (hR : Rel n1 own1 blk1 ep1 ft1 sc lk gr mp un q wt wx lg1 us1 pv1 v1 (u2 m1 32 (n + 1) 1)) : P_V_write_154 fz 1 (nI (n + 1)) v1 ∧ P_M_write_283 fz (nI 0) (nI (n + 1)) m1 ∧ RS t (B_V_write_154 fz 1 (nI (n + 1)) v1) (B_M_write_283 fz (nI 0) (nI (n + 1)) m1) := by
  subst a1 a2 a3 a4 a5 a6
  have hI' := hI
  obtain ⟨iT, iG, iN0, iN1, iQ0, iQ1, iR0, iR1, iW, iC, iK, iE⟩ := hI'
  have hlk : v1 0 3 = lk ∧ m1 27 23 = lk := by
    obtain ⟨hL, hT, hX, hS0, hM0, hD0, hR0, hA0, hW0, hG0, hU0, hE0, hS1, hM1, hD1, hR1, hA1, hW1, hG1, hU1, hE1⟩ := hR
    exact ⟨hL.1, hL.2.2.1⟩
  obtain ⟨l1, l3⟩ := hlk
  have hxn : ix (nI (n + 1)) = n + 1 := nI_clamp (by omega)
  have hvn : vp_in (nI (n + 1)) 301 := vp_in_nI (by omega) (by decide)
  have jT : IT (n + 1) (ug own (n + 1) 0) (ug blk (n + 1) j) (ug ep (n + 1) E) (ug ft (n + 1) 1) := by
    refine ⟨by omega, fun w h1 h2 => ?_⟩
    unfold ug
    by_cases c : w = n + 1
    · simp only [c, if_true]
      exact ⟨by decide, hj, by omega, by decide⟩
    · simp only [c, if_false]
      exact iT.2 w h1 (by omega)
  have jE : IE (n + 1) (ug own (n + 1) 0) (ug ep (n + 1) E) (ug pv 0 (n + 1)) := by
    obtain ⟨e1, e2, e3⟩ := iE
    refine ⟨fun w w' h1 h2 h3 h4 => ?_, fun w h1 h2 => ?_, fun c hc => ?_⟩
    · unfold ug at h4 ⊢
      have cw : ¬ w = n + 1 := by omega
      by_cases c : w' = n + 1
      · simp only [c, cw, if_true, if_false] at h4 ⊢
        exact hE2 w h1 (by omega) h4
      · simp only [c, cw, if_false] at h4 ⊢
        exact e1 w w' h1 h2 (by omega) h4
    · unfold ug
      by_cases c : w = n + 1
      · simp only [c, if_true]
        exact Nat.le_refl _
      · simp only [c, if_false]
        by_cases cb : own w = 0
        · simp only [cb, if_true]
          omega
        · simp only [cb, if_false]
          exact e2 w h1 (by omega)
    · unfold ug
      by_cases cb : c = 0
      · simp only [cb, if_true]
        exact Or.inr ⟨by omega, Nat.le_refl _, trivial⟩
      · simp only [cb, if_false]
        rcases e3 c hc with h | ⟨h1, h2, h3⟩
        · exact Or.inl h
        · have : ¬ pv c = n + 1 := by omega
          simp only [this, if_false]
          exact Or.inr ⟨h1, by omega, h3⟩
  by_cases cl : lk = 0
  · obtain ⟨u1, u2', u3, ⟨u4, u5, u6, u7, u8, u9⟩, u10⟩ := Inv_un hI cl
    have hw1 : ug own (n + 1) 0 (n + 1) = 0 := if_pos rfl
    have hk1 : ug blk (n + 1) j (n + 1) < 32 := by
      have : ug blk (n + 1) j (n + 1) = j := if_pos rfl
      omega
    obtain ⟨p1, p2, sc', gr', r, hs⟩ := r_alone_0 fz (by omega) hR (w := n + 1) (by omega) (Nat.le_refl _) hw1 hk1
    obtain ⟨ea, pa⟩ := alone_32 fz (w := n + 1) (by omega) m1 1
    have eV : B_V_write_154 fz 1 (nI (n + 1)) v1 = (nI (n + 1), B_V_endUpAlone fz (nI (n + 1)) v1) := by simp only [B_V_write_154, l1, cl, eq_self, one0, if_true, if_false, not_true_eq_false, not_false_eq_true, true_implies, false_implies, implies_true, and_true, true_and]
    have eM : B_M_write_283 fz (nI 0) (nI (n + 1)) m1 = (nI (n + 1), B_M_alone fz (nI (n + 1)) (u2 m1 32 (n + 1) 1)) := by
      rw [ea]
      simp only [B_M_write_283, l3, cl, eq_self, one0, if_true, if_false, not_true_eq_false, not_false_eq_true, true_implies, false_implies, implies_true, and_true, true_and]
    refine ⟨by simp only [P_V_write_154, l1, cl, p1, eq_self, one0, if_true, if_false, not_true_eq_false, not_false_eq_true, true_implies, false_implies, implies_true, and_true, true_and], by simp only [P_M_write_283, l3, cl, pa p2, eq_self, one0, if_true, if_false, not_true_eq_false, not_false_eq_true, true_implies, false_implies, implies_true, and_true, true_and], ?_⟩
    rw [eV, eM]
    obtain ⟨g, g1, g2, g3⟩ := iG
    obtain ⟨c1, c2, c3, c4, c5, c6, c7, c8⟩ := iC
    have hgr : ∃ g', gr' = nI g' ∧ 1 ≤ g' ∧ g' ≤ 1 + 301 * (t + 1) := by
      rcases hs with ⟨_, hg⟩ | ⟨hg, _⟩
      · exact ⟨g, hg.trans g1, g2, by omega⟩
      · exact ⟨g + 1, by rw [hg, g1, nI_1], by omega, by omega⟩
    have hoth : ∀ c x, c ≠ 6 → c ≠ 7 → sc' c x = sc c x := by
      intro c x h6 h7
      rcases hs with ⟨h, _⟩ | ⟨_, h⟩
      · rw [h]
      · rw [h]
        unfold u2
        rw [if_neg (fun r => h6 r.1), if_neg (fun r => h7 r.1)]
    have h6z : ∀ x, sc' 6 x = 0 → sc 6 x = 0 := by
      intro x hx
      rcases hs with ⟨h, _⟩ | ⟨_, h⟩
      · rw [h] at hx
        exact hx
      · rw [h, g1, nI_1] at hx
        unfold u2 at hx
        by_cases hb : x = 0
        · rw [if_pos ⟨rfl, hb⟩] at hx
          exact absurd hx (nI_ne0 (by omega) (by omega))
        · rw [if_neg (fun r => hb r.2), if_neg (fun r => hb r.2)] at hx
          exact hx
    refine ⟨rfl, _, _, _, _, _, _, _, _, _, _, _, _, _, _, _, _, r, Inv_down ?_ hgr (fun w h1 h2 => ?_) u2' u3 u4 u5 u6 u7 u10 ?_ ?_ ?_ jE⟩
    · refine ⟨jT.1, fun w h1 h2 => ⟨(jT.2 w h1 h2).1, (jT.2 w h1 h2).2.1, (jT.2 w h1 h2).2.2.1, ?_⟩⟩
      have h4 := (jT.2 w h1 h2).2.2.2
      show ug (ug ft (n + 1) 1) (n + 1) 3 w < 5
      by_cases c : w = n + 1
      · have : ug (ug ft (n + 1) 1) (n + 1) 3 w = 3 := if_pos c
        omega
      · have : ug (ug ft (n + 1) 1) (n + 1) 3 w = ug ft (n + 1) 1 w := if_neg c
        omega
    · show ug (ug ft (n + 1) 1) (n + 1) 3 w ≠ 1
      by_cases c : w = n + 1
      · have : ug (ug ft (n + 1) 1) (n + 1) 3 w = 3 := if_pos c
        omega
      · have e1 : ug (ug ft (n + 1) 1) (n + 1) 3 w = ug ft (n + 1) 1 w := if_neg c
        have e2 : ug ft (n + 1) 1 w = ft w := if_neg c
        rw [e1, e2]
        exact u1 w h1 (by omega)
    · rw [hoth 12 0 (by decide) (by decide)]
      exact u8
    · rw [hoth 12 1 (by decide) (by decide)]
      exact u9
    · rw [hoth 8 0 (by decide) (by decide), hoth 8 1 (by decide) (by decide), hoth 9 0 (by decide) (by decide), hoth 9 1 (by decide) (by decide)]
      exact ⟨fun r => c1 (h6z 0 r), fun r => c2 (h6z 1 r), c3, fun r => absurd rfl r, fun r => absurd rfl r, fun r => absurd rfl r.1, c7, c8⟩
  · have hroom : (q 0).length < 25 := by
      have h1 := iN0.split
      have h2 := iN0.w0
      have h3 := iN0.2.2.2.2.2.1
      have h4 := iN1.both
      have h5 : (PL (q 1) (wt 1) (q 0)).length = (bck (q 1)).length + ((wt 1).length + (fwd (q 0)).length) := by
        unfold PL wmp
        rw [List.length_append, List.length_append, List.length_map]
      exact qroom iQ0 (by omega)
    obtain ⟨p1, p2, r⟩ := r_send_0 fz hR hroom (1, n + 1, 0) (k := 1) (s := nI (n + 1)) (x := 0) (k2 := 1) (s2 := nI (n + 1)) (x2 := 0) li1 rfl rfl li1 rfl rfl
    have eV : B_V_write_154 fz 1 (nI (n + 1)) v1 = (nI (n + 1), B_O_send fz 1 1 (nI (n + 1)) 0 v1) := by simp only [B_V_write_154, l1, cl, eq_self, one0, if_true, if_false, not_true_eq_false, not_false_eq_true, true_implies, false_implies, implies_true, and_true, true_and]
    have eM : B_M_write_283 fz (nI 0) (nI (n + 1)) m1 = (nI (n + 1), B_M_send fz (nI 0) 1 (nI (n + 1)) 0 (u2 m1 32 (n + 1) 1)) := by simp only [B_M_write_283, B_M_write_298, l3, cl, hxn, eq_self, one0, if_true, if_false, not_true_eq_false, not_false_eq_true, true_implies, false_implies, implies_true, and_true, true_and]
    refine ⟨by simp only [P_V_write_154, l1, cl, p1, eq_self, one0, if_true, if_false, not_true_eq_false, not_false_eq_true, true_implies, false_implies, implies_true, and_true, true_and], by simp only [P_M_write_283, P_M_write_298, l3, cl, hxn, hvn, p2, eq_self, one0, if_true, if_false, not_true_eq_false, not_false_eq_true, true_implies, false_implies, implies_true, and_true, true_and], ?_⟩
    rw [eV, eM]
    obtain ⟨g, g1, g2, g3⟩ := iG
    have ef : fwd (q 0 ++ [(1, n + 1, 0)]) = fwd (q 0) ++ [(0, n + 1)] := fwd_app _ _
    have eb : bck (q 0 ++ [(1, n + 1, 0)]) = bck (q 0) := (bck_app _ _).trans (List.append_nil _)
    have ed : dat (q 0 ++ [(1, n + 1, 0)]) = dat (q 0) ++ [n + 1] := dat_app _ _
    have nB : IN (n + 1) (ug own (n + 1) 0) (ug blk (n + 1) j) (ug ft (n + 1) 1) 0 (sc 12 0) (mp 0) (un 0) (PL (q 1) (wt 1) (q 0 ++ [(1, n + 1, 0)])) := by
      have e : PL (q 1) (wt 1) (q 0 ++ [(1, n + 1, 0)]) = PL (q 1) (wt 1) (q 0) ++ [(0, n + 1)] := by
        unfold PL
        rw [ef, List.append_assoc, List.append_assoc]
      rw [e]
      exact iN0.append0 hc j
    have nO : IN (n + 1) (ug own (n + 1) 0) (ug blk (n + 1) j) (ug ft (n + 1) 1) 1 (sc 12 1) (mp 1) (un 1) (PL (q 0 ++ [(1, n + 1, 0)]) (wt 0) (q 1)) := by
      have hp := iN1.other (c := 0) (j := j) (x := 1) (by decide)
      unfold PL at hp ⊢
      rw [eb]
      exact hp
    have hle : ∀ w, w ∈ wt 1 ++ dat (q 0) → w ≤ n := by
      intro w hw
      rcases List.mem_append.mp hw with hw | hw
      · exact ((iN0.2.2.1 w).mp (PL_w hw)).1.2
      · exact ((iN0.2.2.1 w).mp (List.mem_append_right _ (List.mem_append_right _ (dat_fwd hw)))).1.2
    have nR : IR (wt 1) (q 0 ++ [(1, n + 1, 0)]) := by
      unfold IR
      rw [ed, ← List.append_assoc, List.pairwise_append]
      refine ⟨iR0, by simp, fun x hx y hy => ?_⟩
      have := hle x hx
      rw [List.mem_singleton.mp hy]
      omega
    have hwo : ∀ w, w ∈ wt 0 → w ≤ n := fun w hw => ((iN1.2.2.1 w).mp (PL_w hw)).1.2
    have hwt : ∀ w, w ∈ wt 1 → w ≤ n := fun w hw => hle w (List.mem_append_left _ hw)
    have nW : IW (n + 1) (ug own (n + 1) 0) (wt 0) (wt 1) wx := by
      intro w h1 h2
      by_cases c : w = n + 1
      · rw [wx_hi iW w (by omega) h2]
        refine ⟨fun r => (by cases r), fun r => ?_⟩
        rcases r.2 with r | r
        · have := hwo w r.2
          omega
        · have := hwt w r.2
          omega
      · have e : ug own (n + 1) 0 w = own w := if_neg c
        rw [e, iW w h1 h2]
        constructor
        · rintro ⟨r1, r2⟩
          exact ⟨by omega, r2⟩
        · rintro ⟨r1, r2⟩
          exact ⟨by omega, r2⟩
    exact ⟨rfl, _, _, _, _, _, _, _, _, _, _, _, _, _, _, _, _, r, jT, ⟨g, g1, g2, by omega⟩, nB, nO, iQ0.snoc (show 1 ≤ 1 by decide) (show 1 < 5 by decide), iQ1, nR, iR1, nW, iC, fun r => absurd r cl, jE⟩
theorem w_end_1 (fz : Nat) (hz : 400 ≤ fz) {t : Nat} (ht : t ≤ 600) {n : Nat} {own blk ep ft : Nat → Nat} {sc : HH} {lk gr : Int32} {mp un : Nat → Nat → Bool} {q : Nat → List MSG} {wt : Nat → List Nat} {wx : Nat → Bool} {pv : Nat → Nat} {v1 m1 : HH} {n1 : Nat} {own1 blk1 ep1 ft1 : Nat → Nat} {lg1 : Nat → List Nat} {us1 : Nat → Nat → Nat} {pv1 : Nat → Nat} {j E : Nat} (hI : Inv t n own blk ep ft sc lk gr mp un q wt wx pv) (hn : n < 300) (hj : j < 32) (hc : cnP n own ft 1 < 8) (hE : E ≤ n + 1) (hE2 : ∀ w, 1 ≤ w → w ≤ n → own w = 1 → ep w ≤ E) (a1 : n1 = n + 1) (a2 : own1 = ug own (n + 1) 1) (a3 : blk1 = ug blk (n + 1) j) (a4 : ep1 = ug ep (n + 1) E) (a5 : ft1 = ug ft (n + 1) 1) (a6 : pv1 = ug pv 1 (n + 1)) (hR : Rel n1 own1 blk1 ep1 ft1 sc lk gr mp un q wt wx lg1 us1 pv1 v1 (u2 m1 32 (n + 1) 1)) : P_V_write_154 fz 11 (nI (n + 1)) v1 ∧ P_M_write_283 fz (nI 1) (nI (n + 1)) m1 ∧ RS t (B_V_write_154 fz 11 (nI (n + 1)) v1) (B_M_write_283 fz (nI 1) (nI (n + 1)) m1) := by
  subst a1 a2 a3 a4 a5 a6
  have hI' := hI
  obtain ⟨iT, iG, iN0, iN1, iQ0, iQ1, iR0, iR1, iW, iC, iK, iE⟩ := hI'
  have hlk : v1 0 3 = lk ∧ m1 27 23 = lk := by
    obtain ⟨hL, hT, hX, hS0, hM0, hD0, hR0, hA0, hW0, hG0, hU0, hE0, hS1, hM1, hD1, hR1, hA1, hW1, hG1, hU1, hE1⟩ := hR
    exact ⟨hL.1, hL.2.2.1⟩
  obtain ⟨l1, l3⟩ := hlk
  have hxn : ix (nI (n + 1)) = n + 1 := nI_clamp (by omega)
  have hvn : vp_in (nI (n + 1)) 301 := vp_in_nI (by omega) (by decide)
  have jT : IT (n + 1) (ug own (n + 1) 1) (ug blk (n + 1) j) (ug ep (n + 1) E) (ug ft (n + 1) 1) := by
    refine ⟨by omega, fun w h1 h2 => ?_⟩
    unfold ug
    by_cases c : w = n + 1
    · simp only [c, if_true]
      exact ⟨by decide, hj, by omega, by decide⟩
    · simp only [c, if_false]
      exact iT.2 w h1 (by omega)
  have jE : IE (n + 1) (ug own (n + 1) 1) (ug ep (n + 1) E) (ug pv 1 (n + 1)) := by
    obtain ⟨e1, e2, e3⟩ := iE
    refine ⟨fun w w' h1 h2 h3 h4 => ?_, fun w h1 h2 => ?_, fun c hc => ?_⟩
    · unfold ug at h4 ⊢
      have cw : ¬ w = n + 1 := by omega
      by_cases c : w' = n + 1
      · simp only [c, cw, if_true, if_false] at h4 ⊢
        exact hE2 w h1 (by omega) h4
      · simp only [c, cw, if_false] at h4 ⊢
        exact e1 w w' h1 h2 (by omega) h4
    · unfold ug
      by_cases c : w = n + 1
      · simp only [c, if_true]
        exact Nat.le_refl _
      · simp only [c, if_false]
        by_cases cb : own w = 1
        · simp only [cb, if_true]
          omega
        · simp only [cb, if_false]
          exact e2 w h1 (by omega)
    · unfold ug
      by_cases cb : c = 1
      · simp only [cb, if_true]
        exact Or.inr ⟨by omega, Nat.le_refl _, trivial⟩
      · simp only [cb, if_false]
        rcases e3 c hc with h | ⟨h1, h2, h3⟩
        · exact Or.inl h
        · have : ¬ pv c = n + 1 := by omega
          simp only [this, if_false]
          exact Or.inr ⟨h1, by omega, h3⟩
  by_cases cl : lk = 0
  · obtain ⟨u1, u2', u3, ⟨u4, u5, u6, u7, u8, u9⟩, u10⟩ := Inv_un hI cl
    have hw1 : ug own (n + 1) 1 (n + 1) = 1 := if_pos rfl
    have hk1 : ug blk (n + 1) j (n + 1) < 32 := by
      have : ug blk (n + 1) j (n + 1) = j := if_pos rfl
      omega
    obtain ⟨p1, p2, sc', gr', r, hs⟩ := r_alone_1 fz (by omega) hR (w := n + 1) (by omega) (Nat.le_refl _) hw1 hk1
    obtain ⟨ea, pa⟩ := alone_32 fz (w := n + 1) (by omega) m1 1
    have eV : B_V_write_154 fz 11 (nI (n + 1)) v1 = (nI (n + 1), B_V_endUpAlone fz (nI (n + 1)) v1) := by simp only [B_V_write_154, l1, cl, eq_self, one0, if_true, if_false, not_true_eq_false, not_false_eq_true, true_implies, false_implies, implies_true, and_true, true_and]
    have eM : B_M_write_283 fz (nI 1) (nI (n + 1)) m1 = (nI (n + 1), B_M_alone fz (nI (n + 1)) (u2 m1 32 (n + 1) 1)) := by
      rw [ea]
      simp only [B_M_write_283, l3, cl, eq_self, one0, if_true, if_false, not_true_eq_false, not_false_eq_true, true_implies, false_implies, implies_true, and_true, true_and]
    refine ⟨by simp only [P_V_write_154, l1, cl, p1, eq_self, one0, if_true, if_false, not_true_eq_false, not_false_eq_true, true_implies, false_implies, implies_true, and_true, true_and], by simp only [P_M_write_283, l3, cl, pa p2, eq_self, one0, if_true, if_false, not_true_eq_false, not_false_eq_true, true_implies, false_implies, implies_true, and_true, true_and], ?_⟩
    rw [eV, eM]
    obtain ⟨g, g1, g2, g3⟩ := iG
    obtain ⟨c1, c2, c3, c4, c5, c6, c7, c8⟩ := iC
    have hgr : ∃ g', gr' = nI g' ∧ 1 ≤ g' ∧ g' ≤ 1 + 301 * (t + 1) := by
      rcases hs with ⟨_, hg⟩ | ⟨hg, _⟩
      · exact ⟨g, hg.trans g1, g2, by omega⟩
      · exact ⟨g + 1, by rw [hg, g1, nI_1], by omega, by omega⟩
    have hoth : ∀ c x, c ≠ 6 → c ≠ 7 → sc' c x = sc c x := by
      intro c x h6 h7
      rcases hs with ⟨h, _⟩ | ⟨_, h⟩
      · rw [h]
      · rw [h]
        unfold u2
        rw [if_neg (fun r => h6 r.1), if_neg (fun r => h7 r.1)]
    have h6z : ∀ x, sc' 6 x = 0 → sc 6 x = 0 := by
      intro x hx
      rcases hs with ⟨h, _⟩ | ⟨_, h⟩
      · rw [h] at hx
        exact hx
      · rw [h, g1, nI_1] at hx
        unfold u2 at hx
        by_cases hb : x = 1
        · rw [if_pos ⟨rfl, hb⟩] at hx
          exact absurd hx (nI_ne0 (by omega) (by omega))
        · rw [if_neg (fun r => hb r.2), if_neg (fun r => hb r.2)] at hx
          exact hx
    refine ⟨rfl, _, _, _, _, _, _, _, _, _, _, _, _, _, _, _, _, r, Inv_down ?_ hgr (fun w h1 h2 => ?_) u2' u3 u4 u5 u6 u7 u10 ?_ ?_ ?_ jE⟩
    · refine ⟨jT.1, fun w h1 h2 => ⟨(jT.2 w h1 h2).1, (jT.2 w h1 h2).2.1, (jT.2 w h1 h2).2.2.1, ?_⟩⟩
      have h4 := (jT.2 w h1 h2).2.2.2
      show ug (ug ft (n + 1) 1) (n + 1) 3 w < 5
      by_cases c : w = n + 1
      · have : ug (ug ft (n + 1) 1) (n + 1) 3 w = 3 := if_pos c
        omega
      · have : ug (ug ft (n + 1) 1) (n + 1) 3 w = ug ft (n + 1) 1 w := if_neg c
        omega
    · show ug (ug ft (n + 1) 1) (n + 1) 3 w ≠ 1
      by_cases c : w = n + 1
      · have : ug (ug ft (n + 1) 1) (n + 1) 3 w = 3 := if_pos c
        omega
      · have e1 : ug (ug ft (n + 1) 1) (n + 1) 3 w = ug ft (n + 1) 1 w := if_neg c
        have e2 : ug ft (n + 1) 1 w = ft w := if_neg c
        rw [e1, e2]
        exact u1 w h1 (by omega)
    · rw [hoth 12 0 (by decide) (by decide)]
      exact u8
    · rw [hoth 12 1 (by decide) (by decide)]
      exact u9
    · rw [hoth 8 0 (by decide) (by decide), hoth 8 1 (by decide) (by decide), hoth 9 0 (by decide) (by decide), hoth 9 1 (by decide) (by decide)]
      exact ⟨fun r => c1 (h6z 0 r), fun r => c2 (h6z 1 r), c3, fun r => absurd rfl r, fun r => absurd rfl r, fun r => absurd rfl r.1, c7, c8⟩
  · have hroom : (q 1).length < 25 := by
      have h1 := iN1.split
      have h2 := iN1.w0
      have h3 := iN1.2.2.2.2.2.1
      have h4 := iN0.both
      have h5 : (PL (q 0) (wt 0) (q 1)).length = (bck (q 0)).length + ((wt 0).length + (fwd (q 1)).length) := by
        unfold PL wmp
        rw [List.length_append, List.length_append, List.length_map]
      exact qroom iQ1 (by omega)
    obtain ⟨p1, p2, r⟩ := r_send_1 fz hR hroom (1, n + 1, 0) (k := 1) (s := nI (n + 1)) (x := 0) (k2 := 1) (s2 := nI (n + 1)) (x2 := 0) li1 rfl rfl li1 rfl rfl
    have eV : B_V_write_154 fz 11 (nI (n + 1)) v1 = (nI (n + 1), B_O_send fz 11 1 (nI (n + 1)) 0 v1) := by simp only [B_V_write_154, l1, cl, eq_self, one0, if_true, if_false, not_true_eq_false, not_false_eq_true, true_implies, false_implies, implies_true, and_true, true_and]
    have eM : B_M_write_283 fz (nI 1) (nI (n + 1)) m1 = (nI (n + 1), B_M_send fz (nI 1) 1 (nI (n + 1)) 0 (u2 m1 32 (n + 1) 1)) := by simp only [B_M_write_283, B_M_write_298, l3, cl, hxn, eq_self, one0, if_true, if_false, not_true_eq_false, not_false_eq_true, true_implies, false_implies, implies_true, and_true, true_and]
    refine ⟨by simp only [P_V_write_154, l1, cl, p1, eq_self, one0, if_true, if_false, not_true_eq_false, not_false_eq_true, true_implies, false_implies, implies_true, and_true, true_and], by simp only [P_M_write_283, P_M_write_298, l3, cl, hxn, hvn, p2, eq_self, one0, if_true, if_false, not_true_eq_false, not_false_eq_true, true_implies, false_implies, implies_true, and_true, true_and], ?_⟩
    rw [eV, eM]
    obtain ⟨g, g1, g2, g3⟩ := iG
    have ef : fwd (q 1 ++ [(1, n + 1, 0)]) = fwd (q 1) ++ [(0, n + 1)] := fwd_app _ _
    have eb : bck (q 1 ++ [(1, n + 1, 0)]) = bck (q 1) := (bck_app _ _).trans (List.append_nil _)
    have ed : dat (q 1 ++ [(1, n + 1, 0)]) = dat (q 1) ++ [n + 1] := dat_app _ _
    have nB : IN (n + 1) (ug own (n + 1) 1) (ug blk (n + 1) j) (ug ft (n + 1) 1) 1 (sc 12 1) (mp 1) (un 1) (PL (q 0) (wt 0) (q 1 ++ [(1, n + 1, 0)])) := by
      have e : PL (q 0) (wt 0) (q 1 ++ [(1, n + 1, 0)]) = PL (q 0) (wt 0) (q 1) ++ [(0, n + 1)] := by
        unfold PL
        rw [ef, List.append_assoc, List.append_assoc]
      rw [e]
      exact iN1.append0 hc j
    have nO : IN (n + 1) (ug own (n + 1) 1) (ug blk (n + 1) j) (ug ft (n + 1) 1) 0 (sc 12 0) (mp 0) (un 0) (PL (q 1 ++ [(1, n + 1, 0)]) (wt 1) (q 0)) := by
      have hp := iN0.other (c := 1) (j := j) (x := 1) (by decide)
      unfold PL at hp ⊢
      rw [eb]
      exact hp
    have hle : ∀ w, w ∈ wt 0 ++ dat (q 1) → w ≤ n := by
      intro w hw
      rcases List.mem_append.mp hw with hw | hw
      · exact ((iN1.2.2.1 w).mp (PL_w hw)).1.2
      · exact ((iN1.2.2.1 w).mp (List.mem_append_right _ (List.mem_append_right _ (dat_fwd hw)))).1.2
    have nR : IR (wt 0) (q 1 ++ [(1, n + 1, 0)]) := by
      unfold IR
      rw [ed, ← List.append_assoc, List.pairwise_append]
      refine ⟨iR1, by simp, fun x hx y hy => ?_⟩
      have := hle x hx
      rw [List.mem_singleton.mp hy]
      omega
    have hwo : ∀ w, w ∈ wt 1 → w ≤ n := fun w hw => ((iN0.2.2.1 w).mp (PL_w hw)).1.2
    have hwt : ∀ w, w ∈ wt 0 → w ≤ n := fun w hw => hle w (List.mem_append_left _ hw)
    have nW : IW (n + 1) (ug own (n + 1) 1) (wt 0) (wt 1) wx := by
      intro w h1 h2
      by_cases c : w = n + 1
      · rw [wx_hi iW w (by omega) h2]
        refine ⟨fun r => (by cases r), fun r => ?_⟩
        rcases r.2 with r | r
        · have := hwt w r.2
          omega
        · have := hwo w r.2
          omega
      · have e : ug own (n + 1) 1 w = own w := if_neg c
        rw [e, iW w h1 h2]
        constructor
        · rintro ⟨r1, r2⟩
          exact ⟨by omega, r2⟩
        · rintro ⟨r1, r2⟩
          exact ⟨by omega, r2⟩
    exact ⟨rfl, _, _, _, _, _, _, _, _, _, _, _, _, _, _, _, _, r, jT, ⟨g, g1, g2, by omega⟩, nO, nB, iQ0, iQ1.snoc (show 1 ≤ 1 by decide) (show 1 < 5 by decide), iR0, nR, nW, iC, fun r => absurd r cl, jE⟩
theorem S_write (fz : Nat) (hz : 400 ≤ fz) {t : Nat} (ht : t ≤ 600) {v m : HH} (hJ : J2 t v m) (x : Int32) (yb z : Int32) : P_V_write fz x yb z v ∧ P_M_write fz x yb z m ∧ RS t (B_V_write fz x yb z v) (B_M_write fz x yb z m) := by
  rcases ndc x with ⟨h0, h1⟩ | rfl | rfl
  · have eV : B_V_write fz x yb z v = (-1, v) := by simp only [B_V_write, vN_n fz v h0 h1, eq_self, one0, if_true, if_false, not_true_eq_false, not_false_eq_true, true_implies, false_implies, implies_true, and_true, true_and]
    have eM : B_M_write fz x yb z m = (-1, m) := by simp only [B_M_write, mN_n fz m h0 h1, eq_self, one0, if_true, if_false, not_true_eq_false, not_false_eq_true, true_implies, false_implies, implies_true, and_true, true_and]
    refine ⟨by simp only [P_V_write, pT_isNode, vN_n fz v h0 h1, eq_self, one0, if_true, if_false, not_true_eq_false, not_false_eq_true, true_implies, false_implies, implies_true, and_true, true_and], by simp only [P_M_write, pT_isNodeM, mN_n fz m h0 h1, eq_self, one0, if_true, if_false, not_true_eq_false, not_false_eq_true, true_implies, false_implies, implies_true, and_true, true_and], ?_⟩
    rw [eV, eM]
    exact RS.same hJ _
  · have hJ0 := hJ
    obtain ⟨n, own, blk, ep, ft, sc, lk, gr, mp, un, q, wt, wx, lg, us, pv, hR, hI⟩ := hJ
    have hR' := hR
    obtain ⟨hL, hT, hX, hS0, hM0, hD0, hR0, hA0, hW0, hG0, hU0, hE0, hS1, hM1, hD1, hR1, hA1, hW1, hG1, hU1, hE1⟩ := hR'
    have hI' := hI
    obtain ⟨iT, iG, iN0, iN1, iQ0, iQ1, iR0, iR1, iW, iC, iK, iE⟩ := hI'
    obtain ⟨s0a, s1a, s2a, s3a, s4a, s5a, s6a, s7a, s8a, s9a, s10a, s11a, s12a, s13a, s14a, s15a, s16a⟩ := hS0
    obtain ⟨s0b, s1b, s2b, s3b, s4b, s5b, s6b, s7b, s8b, s9b, s10b, s11b, s12b, s13b, s14b, s15b, s16b⟩ := hS1
    obtain ⟨l1, l2, l3, l4⟩ := hL
    rcases blc yb with ⟨j, hj, rfl⟩ | hb
    · have hn := iT.1
      have fj1 := blk_V fz v hj
      have fj2 := blk_M fz m hj
      have e4 : nI j / (4 : Int32) = nI (j / 4) := x4d (by omega)
      have he0 : j / 4 < 8 := by omega
      have hx8 : ix (nI (8 * 0 + j / 4)) = 8 * 0 + j / 4 := nI_clamp (by omega)
      have hv8 : vp_in (nI (8 * 0 + j / 4)) 16 := vp_in_nI (by omega) (by decide)
      have hxj : ix (nI j) = j := nI_clamp (by omega)
      have hvj : vp_in (nI j) 32 := vp_in_nI hj (by decide)
      have a5 := hT.1
      have b0 := hT.2.1
      by_cases c10 : sc 10 0 = 0
      · have eV : B_V_write fz (nI 0) (nI j) z v = (-2, v) := by simp only [B_V_write, vN_0, mN_0, nO_0, pO_0, ixb_0, vpb_0, om_0, ixb_1, vpb_1, s5a, s13a, s6a, s14a, fj1, fj2, e4, x8, hx8, hv8, c10, eq_self, one0, if_true, if_false, not_true_eq_false, not_false_eq_true, true_implies, false_implies, implies_true, and_true, true_and]
        have eM : B_M_write fz (nI 0) (nI j) z m = (-2, m) := by simp only [B_M_write, vN_0, mN_0, nO_0, pO_0, ixb_0, vpb_0, om_0, ixb_1, vpb_1, s5a, s13a, s6a, s14a, fj1, fj2, e4, x8, hx8, hv8, c10, eq_self, one0, if_true, if_false, not_true_eq_false, not_false_eq_true, true_implies, false_implies, implies_true, and_true, true_and]
        refine ⟨by simp only [P_V_write, pT_isNode, pT_nodeOf, pT_peerOf, vN_0, mN_0, nO_0, pO_0, ixb_0, vpb_0, om_0, ixb_1, vpb_1, s5a, s13a, s6a, s14a, fj1, fj2, e4, x8, hx8, hv8, c10, pT_isBlock, P_T_isFull, eq_self, one0, if_true, if_false, not_true_eq_false, not_false_eq_true, true_implies, false_implies, implies_true, and_true, true_and], by simp only [P_M_write, pT_isNodeM, vN_0, mN_0, nO_0, pO_0, ixb_0, vpb_0, om_0, ixb_1, vpb_1, s5a, s13a, s6a, s14a, fj1, fj2, e4, x8, hx8, hv8, c10, pT_isBlockM, eq_self, one0, if_true, if_false, not_true_eq_false, not_false_eq_true, true_implies, false_implies, implies_true, and_true, true_and], ?_⟩
        rw [eV, eM]
        exact RS.same hJ0 _
      · by_cases c11 : sc 11 0 = 0
        · have eV : B_V_write fz (nI 0) (nI j) z v = (-3, v) := by simp only [B_V_write, vN_0, mN_0, nO_0, pO_0, ixb_0, vpb_0, om_0, ixb_1, vpb_1, s5a, s13a, s6a, s14a, fj1, fj2, e4, x8, hx8, hv8, c10, c11, eq_self, one0, if_true, if_false, not_true_eq_false, not_false_eq_true, true_implies, false_implies, implies_true, and_true, true_and]
          have eM : B_M_write fz (nI 0) (nI j) z m = (-3, m) := by simp only [B_M_write, vN_0, mN_0, nO_0, pO_0, ixb_0, vpb_0, om_0, ixb_1, vpb_1, s5a, s13a, s6a, s14a, fj1, fj2, e4, x8, hx8, hv8, c10, c11, eq_self, one0, if_true, if_false, not_true_eq_false, not_false_eq_true, true_implies, false_implies, implies_true, and_true, true_and]
          refine ⟨by simp only [P_V_write, pT_isNode, pT_nodeOf, pT_peerOf, vN_0, mN_0, nO_0, pO_0, ixb_0, vpb_0, om_0, ixb_1, vpb_1, s5a, s13a, s6a, s14a, fj1, fj2, e4, x8, hx8, hv8, c10, c11, pT_isBlock, P_T_isFull, eq_self, one0, if_true, if_false, not_true_eq_false, not_false_eq_true, true_implies, false_implies, implies_true, and_true, true_and], by simp only [P_M_write, pT_isNodeM, vN_0, mN_0, nO_0, pO_0, ixb_0, vpb_0, om_0, ixb_1, vpb_1, s5a, s13a, s6a, s14a, fj1, fj2, e4, x8, hx8, hv8, c10, c11, pT_isBlockM, eq_self, one0, if_true, if_false, not_true_eq_false, not_false_eq_true, true_implies, false_implies, implies_true, and_true, true_and], ?_⟩
          rw [eV, eM]
          exact RS.same hJ0 _
        · obtain ⟨pV, bV⟩ := cp_V fz hz hT iT (b := 0) (by decide)
          obtain ⟨pM, bM⟩ := cp_M fz hz hT iT (b := 0) (f := 0) (t := 31) (by decide) (by decide) (by decide) li0 li31
          rw [cp_all iT] at bM
          by_cases cn3 : n = 300
          · have k1 : ¬ nI n < (300 : Int32) := by rw [li300, cn3]; exact nI_nlt (by omega) (by omega)
            have k2 : nI n = (300 : Int32) := by rw [li300, cn3]
            have hfu : B_T_isFull fz v = 1 := by simp only [B_T_isFull, a5, k1, eq_self, one0, if_true, if_false, not_true_eq_false, not_false_eq_true, true_implies, false_implies, implies_true, and_true, true_and]
            have eV : B_V_write fz (nI 0) (nI j) z v = (-4, v) := by simp only [B_V_write, vN_0, mN_0, nO_0, pO_0, ixb_0, vpb_0, om_0, ixb_1, vpb_1, s5a, s13a, s6a, s14a, fj1, fj2, e4, x8, hx8, hv8, c10, c11, hfu, b0, k2, eq_self, one0, if_true, if_false, not_true_eq_false, not_false_eq_true, true_implies, false_implies, implies_true, and_true, true_and]
            have eM : B_M_write fz (nI 0) (nI j) z m = (-4, m) := by simp only [B_M_write, vN_0, mN_0, nO_0, pO_0, ixb_0, vpb_0, om_0, ixb_1, vpb_1, s5a, s13a, s6a, s14a, fj1, fj2, e4, x8, hx8, hv8, c10, c11, hfu, b0, k2, eq_self, one0, if_true, if_false, not_true_eq_false, not_false_eq_true, true_implies, false_implies, implies_true, and_true, true_and]
            refine ⟨by simp only [P_V_write, pT_isNode, pT_nodeOf, pT_peerOf, vN_0, mN_0, nO_0, pO_0, ixb_0, vpb_0, om_0, ixb_1, vpb_1, s5a, s13a, s6a, s14a, fj1, fj2, e4, x8, hx8, hv8, c10, c11, hfu, b0, k2, pT_isBlock, P_T_isFull, eq_self, one0, if_true, if_false, not_true_eq_false, not_false_eq_true, true_implies, false_implies, implies_true, and_true, true_and], by simp only [P_M_write, pT_isNodeM, vN_0, mN_0, nO_0, pO_0, ixb_0, vpb_0, om_0, ixb_1, vpb_1, s5a, s13a, s6a, s14a, fj1, fj2, e4, x8, hx8, hv8, c10, c11, hfu, b0, k2, pT_isBlockM, eq_self, one0, if_true, if_false, not_true_eq_false, not_false_eq_true, true_implies, false_implies, implies_true, and_true, true_and], ?_⟩
            rw [eV, eM]
            exact RS.same hJ0 _
          · have k1 : nI n < (300 : Int32) := by rw [li300]; exact nI_lt (by omega) (by omega)
            have k2 : ¬ nI n = (300 : Int32) := fun r => by
              rw [li300] at r
              exact cn3 ((nI_eq (by omega) (by omega)).mp r)
            have hfu : B_T_isFull fz v = 0 := by simp only [B_T_isFull, a5, k1, eq_self, one0, if_true, if_false, not_true_eq_false, not_false_eq_true, true_implies, false_implies, implies_true, and_true, true_and]
            have hc300 := cn_le (fun w => decide (own w = 0 ∧ ft w = 1)) n 1
            by_cases cp : nI (cnP n own ft 0) < (8 : Int32)
            · have hc : cnP n own ft 0 < 8 := by
                rw [li8] at cp
                unfold cnP at cp ⊢
                exact (nI_ltI (by omega) (by omega)).mp cp
              obtain ⟨pP, hpb⟩ := pendB fz hz hT iT (b := 0) (by decide)
              rcases wlog_0 fz hz hR iT he0 with ⟨p, g, y, mG, hp3, hpl, hg8, ⟨pF, bF⟩, hG', hmG, hrow, hLM, hLP⟩ | ⟨⟨pF, bF⟩, hLM, hLP⟩
              · have npm : ¬ nI p = -1 := fun r => by
                  have h0 : ¬ nI p < 0 := nI_pos (by omega)
                  rw [r] at h0
                  exact h0 (by decide)
                obtain ⟨q1, q2⟩ := cv_putInFront fz hz 1 (nI (j / 4)) v hp3
                have hlen : ((j / 4) :: (lg 0).eraseIdx p).length = if p = (lg 0).length then (lg 0).length + 1 else (lg 0).length := by
                  rw [List.length_cons, List.length_eraseIdx]
                  split <;> split <;> omega
                have z2 : (pfr 1 (nI (j / 4)) p v) (1 + 2) 1 = nI (lg 0).length := hG0.2.1
                have e43 : B_E_putInFront_43 fz 1 (nI p) (pfr 1 (nI (j / 4)) p v) = u2 (pfr 1 (nI (j / 4)) p v) 3 1 (nI ((j / 4) :: (lg 0).eraseIdx p).length) := by
                  have hl3 := hG0.1
                  rw [hlen, B_E_putInFront_43, z2]
                  by_cases c : p = (lg 0).length
                  · rw [if_pos (congrArg nI c), if_pos c, nI_1]
                  · rw [if_neg (fun r => c ((nI_eq (by omega) (by omega)).mp r)), if_neg c]
                    exact (u2_id z2.symm).symm
                rw [e43] at q2
                obtain ⟨v1, v2, v3, v4⟩ := hE0
                have hepv : ∃ epv, epv ≤ n ∧ m 31 (pv 0) = nI epv ∧ ∀ w, 1 ≤ w → w ≤ n → own w = 0 → ep w ≤ epv := by
                  rcases iE.2.2 0 (by decide) with h | ⟨h1, h2, h3⟩
                  · refine ⟨0, Nat.zero_le _, by rw [h, hT.2.2.2.1]; exact li0, fun w g1 g2 g3 => ?_⟩
                    have := iE.2.1 w g1 g2
                    rw [g3, h] at this
                    omega
                  · obtain ⟨-, -, -, f3, -⟩ := hT.2.2.2.2 (pv 0) h1 h2
                    have h4 := (iT.2 (pv 0) h1 h2).2.2.1
                    refine ⟨ep (pv 0), by omega, f3, fun w g1 g2 g3 => ?_⟩
                    have h5 := iE.2.1 w g1 g2
                    rw [g3] at h5
                    rcases Nat.lt_or_ge w (pv 0) with c | c
                    · exact iE.1 w (pv 0) g1 c h2 (by rw [g3, h3])
                    · have : w = pv 0 := by omega
                      rw [this]
                      exact Nat.le_refl _
                obtain ⟨epv, hepn, hep31, hepm⟩ := hepv
                have hCC : 0 < cn (fun w => decide (own w = 0 ∧ ft w = 1 ∧ j ≤ blk w ∧ blk w ≤ j)) 1 n ↔ bt (B_T_pendingBlocks fz (nI 0) v) j = true := by
                  rw [hpb j hj, cn_pos]
                  constructor
                  · rintro ⟨w, g1, g2, g3⟩
                    have g4 := of_decide_eq_true g3
                    exact ⟨w, g1, by omega, g4.1, g4.2.1, by omega⟩
                  · rintro ⟨w, g1, g2, g3, g4, g5⟩
                    exact ⟨w, g1, by omega, decide_eq_true ⟨g3, g4, by omega, by omega⟩⟩
                have hd : ∃ d, d ≤ 1 ∧ ((d = 1 ∧ (v 1 16 ≠ 0 ∨ bt (B_T_pendingBlocks fz (nI 0) v) j = true)) ∨ (d = 0 ∧ v 1 16 = 0 ∧ bt (B_T_pendingBlocks fz (nI 0) v) j = false)) ∧ ((d = 1 ∧ (pv 0 = 0 ∨ m 46 0 ≠ 0 ∨ 0 < cn (fun w => decide (own w = 0 ∧ ft w = 1 ∧ j ≤ blk w ∧ blk w ≤ j)) 1 n)) ∨ (d = 0 ∧ pv 0 ≠ 0 ∧ m 46 0 = 0 ∧ cn (fun w => decide (own w = 0 ∧ ft w = 1 ∧ j ≤ blk w ∧ blk w ≤ j)) 1 n = 0)) := by
                  by_cases c16 : v 1 16 = 0
                  · obtain ⟨w1, w2⟩ := v4.mp c16
                    cases hbt : bt (B_T_pendingBlocks fz (nI 0) v) j with
                    | true => exact ⟨1, Nat.le_refl _, Or.inl ⟨rfl, Or.inr rfl⟩, Or.inl ⟨rfl, Or.inr (Or.inr (hCC.mpr hbt))⟩⟩
                    | false =>
                      refine ⟨0, Nat.zero_le _, Or.inr ⟨rfl, c16, rfl⟩, Or.inr ⟨rfl, w1, w2, Nat.eq_zero_of_not_pos (fun r => ?_)⟩⟩
                      rw [hCC.mp r] at hbt
                      cases hbt
                  · refine ⟨1, Nat.le_refl _, Or.inl ⟨rfl, Or.inl c16⟩, Or.inl ⟨rfl, ?_⟩⟩
                    by_cases w1 : pv 0 = 0
                    · exact Or.inl w1
                    · exact Or.inr (Or.inl (fun w2 => c16 (v4.mpr ⟨w1, w2⟩)))
                obtain ⟨d, hd1, hdV, hdM⟩ := hd
                have hpd : P_M_pending fz (nI 0) (nI j) (nI j) (u2 (u2 (u2 mG 36 (8 * 0 + j / 4) 1) 27 11 (nI (n + 1))) 37 (8 * 0 + j / 4) (nI (n + 1))) ∧ B_M_pending fz (nI 0) (nI j) (nI j) (u2 (u2 (u2 mG 36 (8 * 0 + j / 4) 1) 27 11 (nI (n + 1))) 37 (8 * 0 + j / 4) (nI (n + 1))) = nI (cn (fun w => decide (own w = 0 ∧ ft w = 1 ∧ j ≤ blk w ∧ blk w ≤ j)) 1 n) ∧ cn (fun w => decide (own w = 0 ∧ ft w = 1 ∧ j ≤ blk w ∧ blk w ≤ j)) 1 n ≤ 300 := by
                  have h270 : (u2 (u2 (u2 mG 36 (8 * 0 + j / 4) 1) 27 11 (nI (n + 1))) 37 (8 * 0 + j / 4) (nI (n + 1))) 27 0 = nI n := (congrFun (hrow 27 (by decide)) 0).trans b0
                  obtain ⟨w1, w2⟩ := cv_pending fz hz (nI 0) (nI j) (nI j) (u2 (u2 (u2 mG 36 (8 * 0 + j / 4) 1) 27 11 (nI (n + 1))) 37 (8 * 0 + j / 4) (nI (n + 1))) hn h270
                  have hle := cn_le (fun w => decide (own w = 0 ∧ ft w = 1 ∧ j ≤ blk w ∧ blk w ≤ j)) n 1
                  refine ⟨w1, w2.trans (congrArg nI (cn_congr n 1 (fun w g1 g2 => ?_))), by omega⟩
                  obtain ⟨-, f1, f2, f3, f4⟩ := hT.2.2.2.2 w g1 (by omega)
                  obtain ⟨o1, o2, o3, o4⟩ := iT.2 w g1 (by omega)
                  have r28 : (u2 (u2 (u2 mG 36 (8 * 0 + j / 4) 1) 27 11 (nI (n + 1))) 37 (8 * 0 + j / 4) (nI (n + 1))) 28 w = nI (own w) := (congrFun (hrow 28 (by decide)) w).trans f1
                  have r29 : (u2 (u2 (u2 mG 36 (8 * 0 + j / 4) 1) 27 11 (nI (n + 1))) 37 (8 * 0 + j / 4) (nI (n + 1))) 29 w = nI (blk w) := (congrFun (hrow 29 (by decide)) w).trans f2
                  have r32 : (u2 (u2 (u2 mG 36 (8 * 0 + j / 4) 1) 27 11 (nI (n + 1))) 37 (8 * 0 + j / 4) (nI (n + 1))) 32 w = nI (ft w) := (congrFun (hrow 32 (by decide)) w).trans f4
                  have k1 : nI (own w) = nI 0 ↔ own w = 0 := nI_eq (by omega) (by omega)
                  have k2 : nI (ft w) = (1 : Int32) ↔ ft w = 1 := by rw [li1]; exact nI_eq (by omega) (by omega)
                  have k3 : nI (blk w) < nI j ↔ blk w < j := nI_ltI (by omega) (by omega)
                  have k4 : nI j < nI (blk w) ↔ j < blk w := nI_ltI (by omega) (by omega)
                  rw [r28, r29, r32]
                  simp only [k1, k2, k3, k4, Nat.not_lt]
                  exact decide_eq_decide.mpr ⟨fun r => ⟨r.2.1, r.1, r.2.2⟩, fun r => ⟨r.2.1, r.1, r.2.2⟩⟩
                obtain ⟨tM1, tM2⟩ := m_tail fz (b := 0) (j := j) (n := n) (pvb := pv 0) (epv := epv) (cP := cn (fun w => decide (own w = 0 ∧ ft w = 1 ∧ j ≤ blk w ∧ blk w ≤ j)) 1 n) (d := d) (e0 := j / 4) (by decide) hj he0 (by omega) v1 hepn z (m 46 0) mG ((congrFun (hrow 47 (by decide)) 0).trans v3) (congrFun (hrow 46 (by decide)) 0) ((congrFun (hrow 31 (by decide)) (pv 0)).trans hep31) ((congrFun (hrow 27 (by decide)) 0).trans b0) ((congrFun (hrow 27 (by decide)) 11).trans hT.2.2.1) hpd hdM
                obtain ⟨tV1, tV2⟩ := v_tail_0 fz (j := j) (n := n) (epv := epv) (d := d) hj (by omega) z (B_T_pendingBlocks fz (nI 0) v) (v 1 16) (u2 (u2 (pfr 1 (nI (j / 4)) p v) 3 1 (nI ((j / 4) :: (lg 0).eraseIdx p).length)) 2 j z) rfl (v2.trans hep31) a5 hdV
                have rr := w_rel_0 hR (by omega) (j := j) (p := p) (g := g) (e0 := j / 4) (E := epv + d) hj he0 hg8 y z hG'
                obtain ⟨w1, w2, w3⟩ := w_end_0 fz hz ht (v1 := u2 (u2 (u2 (u2 (u2 (u2 (u2 (u2 (u2 (u2 (pfr 1 (nI (j / 4)) p v) 3 1 (nI ((j / 4) :: (lg 0).eraseIdx p).length)) 2 j z) 1 15 (nI (epv + d))) 1 16 0) 21 5 (nI (n + 1))) 22 (n + 1) (nI 0)) 23 (n + 1) (nI j)) 24 (n + 1) z) 25 (n + 1) (nI (epv + d))) 26 (n + 1) 1) (m1 := u2 (u2 (u2 (u2 (u2 (u2 (u2 (u2 (u2 (u2 (u2 (u2 m 36 (8 * 0 + g) y) 36 (8 * 0 + j / 4) 1) 27 11 (nI (n + 1))) 37 (8 * 0 + j / 4) (nI (n + 1))) 27 0 (nI (n + 1))) 28 (n + 1) (nI 0)) 29 (n + 1) (nI j)) 30 (n + 1) z) 31 (n + 1) (nI (epv + d))) 47 0 (nI (n + 1))) 46 0 0) 34 (32 * 0 + j) z) (j := j) (E := epv + d) hI (by omega) hj hc (by omega) (fun w g1 g2 g3 => Nat.le_trans (hepm w g1 g2 g3) (Nat.le_add_right _ _)) rfl rfl rfl rfl rfl rfl rr
                rw [hmG] at tM1 tM2
                have eV : B_V_write fz (nI 0) (nI j) z v = B_V_write_154 fz 1 (nI (n + 1)) (u2 (u2 (u2 (u2 (u2 (u2 (u2 (u2 (u2 (u2 (pfr 1 (nI (j / 4)) p v) 3 1 (nI ((j / 4) :: (lg 0).eraseIdx p).length)) 2 j z) 1 15 (nI (epv + d))) 1 16 0) 21 5 (nI (n + 1))) 22 (n + 1) (nI 0)) 23 (n + 1) (nI j)) 24 (n + 1) z) 25 (n + 1) (nI (epv + d))) 26 (n + 1) 1) := by
                  rw [← tV2]
                  simp only [B_V_write, vN_0, mN_0, nO_0, pO_0, ixb_0, vpb_0, om_0, ixb_1, vpb_1, s5a, s13a, s6a, s14a, fj1, fj2, e4, x8, hx8, hv8, c10, c11, hfu, bV, cp, bF, npm, q2, hxj, eq_self, one0, if_true, if_false, not_true_eq_false, not_false_eq_true, true_implies, false_implies, implies_true, and_true, true_and]
                have eM : B_M_write fz (nI 0) (nI j) z m = B_M_write_283 fz (nI 0) (nI (n + 1)) (u2 (u2 (u2 (u2 (u2 (u2 (u2 (u2 (u2 (u2 (u2 (u2 m 36 (8 * 0 + g) y) 36 (8 * 0 + j / 4) 1) 27 11 (nI (n + 1))) 37 (8 * 0 + j / 4) (nI (n + 1))) 27 0 (nI (n + 1))) 28 (n + 1) (nI 0)) 29 (n + 1) (nI j)) 30 (n + 1) z) 31 (n + 1) (nI (epv + d))) 47 0 (nI (n + 1))) 46 0 0) 34 (32 * 0 + j) z) := by
                  rw [← tM2, ← hLM (fun h => B_M_write_123 fz (nI 0) (nI j) z (nI (8 * 0 + j / 4)) h)]
                  simp only [B_M_write, wLM, vN_0, mN_0, nO_0, pO_0, ixb_0, vpb_0, om_0, ixb_1, vpb_1, s5a, s13a, s6a, s14a, fj1, fj2, e4, x8, hx8, hv8, c10, c11, b0, k2, bM, cp, eq_self, one0, if_true, if_false, not_true_eq_false, not_false_eq_true, true_implies, false_implies, implies_true, and_true, true_and]
                have pVV : P_V_write fz (nI 0) (nI j) z v := by
                  have w9 := tV1 w1
                  simp only [P_V_write, pT_isNode, pT_isBlock, pT_nodeOf, P_T_isFull, vN_0, mN_0, nO_0, pO_0, ixb_0, vpb_0, om_0, ixb_1, vpb_1, s5a, s13a, s6a, s14a, fj1, fj2, e4, x8, hx8, hv8, c10, c11, hfu, pV, bV, cp, pP, pF, bF, npm, q1, q2, hxj, hvj, w9, eq_self, one0, if_true, if_false, not_true_eq_false, not_false_eq_true, true_implies, false_implies, implies_true, and_true, true_and]
                have pMM : P_M_write fz (nI 0) (nI j) z m := by
                  have w9 := hLP (fun h => P_M_write_123 fz (nI 0) (nI j) z (nI (8 * 0 + j / 4)) h) (tM1 w2)
                  unfold wLP at w9
                  simp only [P_M_write, pT_isNodeM, pT_isBlockM, vN_0, mN_0, nO_0, pO_0, ixb_0, vpb_0, om_0, ixb_1, vpb_1, s5a, s13a, s6a, s14a, fj1, fj2, e4, x8, hx8, hv8, c10, c11, b0, k2, pM, bM, cp, eq_self, one0, if_true, if_false, not_true_eq_false, not_false_eq_true, true_implies, false_implies, implies_true, and_true, true_and]
                  simp only [x8, implies_true, and_true] at w9
                  exact w9
                refine ⟨pVV, pMM, ?_⟩
                rw [eV, eM]
                exact w3
              · have eV : B_V_write fz (nI 0) (nI j) z v = (-5, v) := by simp only [B_V_write, vN_0, mN_0, nO_0, pO_0, ixb_0, vpb_0, om_0, ixb_1, vpb_1, s5a, s13a, s6a, s14a, fj1, fj2, e4, x8, hx8, hv8, c10, c11, hfu, bV, cp, bF, eq_self, one0, if_true, if_false, not_true_eq_false, not_false_eq_true, true_implies, false_implies, implies_true, and_true, true_and]
                have eM : B_M_write fz (nI 0) (nI j) z m = (-5, m) := by
                  rw [← hLM (fun h => B_M_write_123 fz (nI 0) (nI j) z (nI (8 * 0 + j / 4)) h)]
                  simp only [B_M_write, wLM, vN_0, mN_0, nO_0, pO_0, ixb_0, vpb_0, om_0, ixb_1, vpb_1, s5a, s13a, s6a, s14a, fj1, fj2, e4, x8, hx8, hv8, c10, c11, b0, k2, bM, cp, eq_self, one0, if_true, if_false, not_true_eq_false, not_false_eq_true, true_implies, false_implies, implies_true, and_true, true_and]
                have pMM : P_M_write fz (nI 0) (nI j) z m := by
                  have w9 := hLP (fun h => P_M_write_123 fz (nI 0) (nI j) z (nI (8 * 0 + j / 4)) h)
                  unfold wLP at w9
                  simp only [P_M_write, pT_isNodeM, pT_isBlockM, vN_0, mN_0, nO_0, pO_0, ixb_0, vpb_0, om_0, ixb_1, vpb_1, s5a, s13a, s6a, s14a, fj1, fj2, e4, x8, hx8, hv8, c10, c11, b0, k2, pM, bM, cp, eq_self, one0, if_true, if_false, not_true_eq_false, not_false_eq_true, true_implies, false_implies, implies_true, and_true, true_and]
                  simp only [x8, implies_true, and_true] at w9
                  exact w9
                refine ⟨by simp only [P_V_write, pT_isNode, pT_isBlock, pT_nodeOf, P_T_isFull, vN_0, mN_0, nO_0, pO_0, ixb_0, vpb_0, om_0, ixb_1, vpb_1, s5a, s13a, s6a, s14a, fj1, fj2, e4, x8, hx8, hv8, c10, c11, hfu, pV, bV, cp, pP, pF, bF, eq_self, one0, if_true, if_false, not_true_eq_false, not_false_eq_true, true_implies, false_implies, implies_true, and_true, true_and], pMM, ?_⟩
                rw [eV, eM]
                exact RS.same hJ0 _
            · have eV : B_V_write fz (nI 0) (nI j) z v = (-4, v) := by simp only [B_V_write, vN_0, mN_0, nO_0, pO_0, ixb_0, vpb_0, om_0, ixb_1, vpb_1, s5a, s13a, s6a, s14a, fj1, fj2, e4, x8, hx8, hv8, c10, c11, hfu, bV, bM, cp, b0, k2, eq_self, one0, if_true, if_false, not_true_eq_false, not_false_eq_true, true_implies, false_implies, implies_true, and_true, true_and]
              have eM : B_M_write fz (nI 0) (nI j) z m = (-4, m) := by simp only [B_M_write, vN_0, mN_0, nO_0, pO_0, ixb_0, vpb_0, om_0, ixb_1, vpb_1, s5a, s13a, s6a, s14a, fj1, fj2, e4, x8, hx8, hv8, c10, c11, hfu, bV, bM, cp, b0, k2, eq_self, one0, if_true, if_false, not_true_eq_false, not_false_eq_true, true_implies, false_implies, implies_true, and_true, true_and]
              refine ⟨by simp only [P_V_write, pT_isNode, pT_nodeOf, pT_peerOf, vN_0, mN_0, nO_0, pO_0, ixb_0, vpb_0, om_0, ixb_1, vpb_1, s5a, s13a, s6a, s14a, fj1, fj2, e4, x8, hx8, hv8, c10, c11, hfu, bV, bM, cp, b0, k2, pT_isBlock, P_T_isFull, pV, eq_self, one0, if_true, if_false, not_true_eq_false, not_false_eq_true, true_implies, false_implies, implies_true, and_true, true_and], by simp only [P_M_write, pT_isNodeM, vN_0, mN_0, nO_0, pO_0, ixb_0, vpb_0, om_0, ixb_1, vpb_1, s5a, s13a, s6a, s14a, fj1, fj2, e4, x8, hx8, hv8, c10, c11, hfu, bV, bM, cp, b0, k2, pT_isBlockM, pM, eq_self, one0, if_true, if_false, not_true_eq_false, not_false_eq_true, true_implies, false_implies, implies_true, and_true, true_and], ?_⟩
              rw [eV, eM]
              exact RS.same hJ0 _
    · have hb1 := (hb fz v).1
      have hb2 := (hb fz m).2
      have eV : B_V_write fz (nI 0) yb z v = (-1, v) := by simp only [B_V_write, vN_0, mN_0, nO_0, pO_0, ixb_0, vpb_0, om_0, ixb_1, vpb_1, s5a, s13a, s6a, s14a, hb1, hb2, eq_self, one0, if_true, if_false, not_true_eq_false, not_false_eq_true, true_implies, false_implies, implies_true, and_true, true_and]
      have eM : B_M_write fz (nI 0) yb z m = (-1, m) := by simp only [B_M_write, vN_0, mN_0, nO_0, pO_0, ixb_0, vpb_0, om_0, ixb_1, vpb_1, s5a, s13a, s6a, s14a, hb1, hb2, eq_self, one0, if_true, if_false, not_true_eq_false, not_false_eq_true, true_implies, false_implies, implies_true, and_true, true_and]
      refine ⟨by simp only [P_V_write, pT_isNode, pT_nodeOf, pT_peerOf, vN_0, mN_0, nO_0, pO_0, ixb_0, vpb_0, om_0, ixb_1, vpb_1, s5a, s13a, s6a, s14a, hb1, hb2, pT_isBlock, P_T_isFull, eq_self, one0, if_true, if_false, not_true_eq_false, not_false_eq_true, true_implies, false_implies, implies_true, and_true, true_and], by simp only [P_M_write, pT_isNodeM, vN_0, mN_0, nO_0, pO_0, ixb_0, vpb_0, om_0, ixb_1, vpb_1, s5a, s13a, s6a, s14a, hb1, hb2, pT_isBlockM, eq_self, one0, if_true, if_false, not_true_eq_false, not_false_eq_true, true_implies, false_implies, implies_true, and_true, true_and], ?_⟩
      rw [eV, eM]
      exact RS.same hJ0 _
  · have hJ0 := hJ
    obtain ⟨n, own, blk, ep, ft, sc, lk, gr, mp, un, q, wt, wx, lg, us, pv, hR, hI⟩ := hJ
    have hR' := hR
    obtain ⟨hL, hT, hX, hS0, hM0, hD0, hR0, hA0, hW0, hG0, hU0, hE0, hS1, hM1, hD1, hR1, hA1, hW1, hG1, hU1, hE1⟩ := hR'
    have hI' := hI
    obtain ⟨iT, iG, iN0, iN1, iQ0, iQ1, iR0, iR1, iW, iC, iK, iE⟩ := hI'
    obtain ⟨s0a, s1a, s2a, s3a, s4a, s5a, s6a, s7a, s8a, s9a, s10a, s11a, s12a, s13a, s14a, s15a, s16a⟩ := hS0
    obtain ⟨s0b, s1b, s2b, s3b, s4b, s5b, s6b, s7b, s8b, s9b, s10b, s11b, s12b, s13b, s14b, s15b, s16b⟩ := hS1
    obtain ⟨l1, l2, l3, l4⟩ := hL
    rcases blc yb with ⟨j, hj, rfl⟩ | hb
    · have hn := iT.1
      have fj1 := blk_V fz v hj
      have fj2 := blk_M fz m hj
      have e4 : nI j / (4 : Int32) = nI (j / 4) := x4d (by omega)
      have he0 : j / 4 < 8 := by omega
      have hx8 : ix (nI (8 * 1 + j / 4)) = 8 * 1 + j / 4 := nI_clamp (by omega)
      have hv8 : vp_in (nI (8 * 1 + j / 4)) 16 := vp_in_nI (by omega) (by decide)
      have hxj : ix (nI j) = j := nI_clamp (by omega)
      have hvj : vp_in (nI j) 32 := vp_in_nI hj (by decide)
      have a5 := hT.1
      have b0 := hT.2.1
      by_cases c10 : sc 10 1 = 0
      · have eV : B_V_write fz (nI 1) (nI j) z v = (-2, v) := by simp only [B_V_write, vN_1, mN_1, nO_1, pO_1, ixb_1, vpb_1, om_1, ixb_0, vpb_0, s5b, s13b, s6b, s14b, fj1, fj2, e4, x8, hx8, hv8, c10, eq_self, one0, if_true, if_false, not_true_eq_false, not_false_eq_true, true_implies, false_implies, implies_true, and_true, true_and]
        have eM : B_M_write fz (nI 1) (nI j) z m = (-2, m) := by simp only [B_M_write, vN_1, mN_1, nO_1, pO_1, ixb_1, vpb_1, om_1, ixb_0, vpb_0, s5b, s13b, s6b, s14b, fj1, fj2, e4, x8, hx8, hv8, c10, eq_self, one0, if_true, if_false, not_true_eq_false, not_false_eq_true, true_implies, false_implies, implies_true, and_true, true_and]
        refine ⟨by simp only [P_V_write, pT_isNode, pT_nodeOf, pT_peerOf, vN_1, mN_1, nO_1, pO_1, ixb_1, vpb_1, om_1, ixb_0, vpb_0, s5b, s13b, s6b, s14b, fj1, fj2, e4, x8, hx8, hv8, c10, pT_isBlock, P_T_isFull, eq_self, one0, if_true, if_false, not_true_eq_false, not_false_eq_true, true_implies, false_implies, implies_true, and_true, true_and], by simp only [P_M_write, pT_isNodeM, vN_1, mN_1, nO_1, pO_1, ixb_1, vpb_1, om_1, ixb_0, vpb_0, s5b, s13b, s6b, s14b, fj1, fj2, e4, x8, hx8, hv8, c10, pT_isBlockM, eq_self, one0, if_true, if_false, not_true_eq_false, not_false_eq_true, true_implies, false_implies, implies_true, and_true, true_and], ?_⟩
        rw [eV, eM]
        exact RS.same hJ0 _
      · by_cases c11 : sc 11 1 = 0
        · have eV : B_V_write fz (nI 1) (nI j) z v = (-3, v) := by simp only [B_V_write, vN_1, mN_1, nO_1, pO_1, ixb_1, vpb_1, om_1, ixb_0, vpb_0, s5b, s13b, s6b, s14b, fj1, fj2, e4, x8, hx8, hv8, c10, c11, eq_self, one0, if_true, if_false, not_true_eq_false, not_false_eq_true, true_implies, false_implies, implies_true, and_true, true_and]
          have eM : B_M_write fz (nI 1) (nI j) z m = (-3, m) := by simp only [B_M_write, vN_1, mN_1, nO_1, pO_1, ixb_1, vpb_1, om_1, ixb_0, vpb_0, s5b, s13b, s6b, s14b, fj1, fj2, e4, x8, hx8, hv8, c10, c11, eq_self, one0, if_true, if_false, not_true_eq_false, not_false_eq_true, true_implies, false_implies, implies_true, and_true, true_and]
          refine ⟨by simp only [P_V_write, pT_isNode, pT_nodeOf, pT_peerOf, vN_1, mN_1, nO_1, pO_1, ixb_1, vpb_1, om_1, ixb_0, vpb_0, s5b, s13b, s6b, s14b, fj1, fj2, e4, x8, hx8, hv8, c10, c11, pT_isBlock, P_T_isFull, eq_self, one0, if_true, if_false, not_true_eq_false, not_false_eq_true, true_implies, false_implies, implies_true, and_true, true_and], by simp only [P_M_write, pT_isNodeM, vN_1, mN_1, nO_1, pO_1, ixb_1, vpb_1, om_1, ixb_0, vpb_0, s5b, s13b, s6b, s14b, fj1, fj2, e4, x8, hx8, hv8, c10, c11, pT_isBlockM, eq_self, one0, if_true, if_false, not_true_eq_false, not_false_eq_true, true_implies, false_implies, implies_true, and_true, true_and], ?_⟩
          rw [eV, eM]
          exact RS.same hJ0 _
        · obtain ⟨pV, bV⟩ := cp_V fz hz hT iT (b := 1) (by decide)
          obtain ⟨pM, bM⟩ := cp_M fz hz hT iT (b := 1) (f := 0) (t := 31) (by decide) (by decide) (by decide) li0 li31
          rw [cp_all iT] at bM
          by_cases cn3 : n = 300
          · have k1 : ¬ nI n < (300 : Int32) := by rw [li300, cn3]; exact nI_nlt (by omega) (by omega)
            have k2 : nI n = (300 : Int32) := by rw [li300, cn3]
            have hfu : B_T_isFull fz v = 1 := by simp only [B_T_isFull, a5, k1, eq_self, one0, if_true, if_false, not_true_eq_false, not_false_eq_true, true_implies, false_implies, implies_true, and_true, true_and]
            have eV : B_V_write fz (nI 1) (nI j) z v = (-4, v) := by simp only [B_V_write, vN_1, mN_1, nO_1, pO_1, ixb_1, vpb_1, om_1, ixb_0, vpb_0, s5b, s13b, s6b, s14b, fj1, fj2, e4, x8, hx8, hv8, c10, c11, hfu, b0, k2, eq_self, one0, if_true, if_false, not_true_eq_false, not_false_eq_true, true_implies, false_implies, implies_true, and_true, true_and]
            have eM : B_M_write fz (nI 1) (nI j) z m = (-4, m) := by simp only [B_M_write, vN_1, mN_1, nO_1, pO_1, ixb_1, vpb_1, om_1, ixb_0, vpb_0, s5b, s13b, s6b, s14b, fj1, fj2, e4, x8, hx8, hv8, c10, c11, hfu, b0, k2, eq_self, one0, if_true, if_false, not_true_eq_false, not_false_eq_true, true_implies, false_implies, implies_true, and_true, true_and]
            refine ⟨by simp only [P_V_write, pT_isNode, pT_nodeOf, pT_peerOf, vN_1, mN_1, nO_1, pO_1, ixb_1, vpb_1, om_1, ixb_0, vpb_0, s5b, s13b, s6b, s14b, fj1, fj2, e4, x8, hx8, hv8, c10, c11, hfu, b0, k2, pT_isBlock, P_T_isFull, eq_self, one0, if_true, if_false, not_true_eq_false, not_false_eq_true, true_implies, false_implies, implies_true, and_true, true_and], by simp only [P_M_write, pT_isNodeM, vN_1, mN_1, nO_1, pO_1, ixb_1, vpb_1, om_1, ixb_0, vpb_0, s5b, s13b, s6b, s14b, fj1, fj2, e4, x8, hx8, hv8, c10, c11, hfu, b0, k2, pT_isBlockM, eq_self, one0, if_true, if_false, not_true_eq_false, not_false_eq_true, true_implies, false_implies, implies_true, and_true, true_and], ?_⟩
            rw [eV, eM]
            exact RS.same hJ0 _
          · have k1 : nI n < (300 : Int32) := by rw [li300]; exact nI_lt (by omega) (by omega)
            have k2 : ¬ nI n = (300 : Int32) := fun r => by
              rw [li300] at r
              exact cn3 ((nI_eq (by omega) (by omega)).mp r)
            have hfu : B_T_isFull fz v = 0 := by simp only [B_T_isFull, a5, k1, eq_self, one0, if_true, if_false, not_true_eq_false, not_false_eq_true, true_implies, false_implies, implies_true, and_true, true_and]
            have hc300 := cn_le (fun w => decide (own w = 1 ∧ ft w = 1)) n 1
            by_cases cp : nI (cnP n own ft 1) < (8 : Int32)
            · have hc : cnP n own ft 1 < 8 := by
                rw [li8] at cp
                unfold cnP at cp ⊢
                exact (nI_ltI (by omega) (by omega)).mp cp
              obtain ⟨pP, hpb⟩ := pendB fz hz hT iT (b := 1) (by decide)
              rcases wlog_1 fz hz hR iT he0 with ⟨p, g, y, mG, hp3, hpl, hg8, ⟨pF, bF⟩, hG', hmG, hrow, hLM, hLP⟩ | ⟨⟨pF, bF⟩, hLM, hLP⟩
              · have npm : ¬ nI p = -1 := fun r => by
                  have h0 : ¬ nI p < 0 := nI_pos (by omega)
                  rw [r] at h0
                  exact h0 (by decide)
                obtain ⟨q1, q2⟩ := cv_putInFront fz hz 11 (nI (j / 4)) v hp3
                have hlen : ((j / 4) :: (lg 1).eraseIdx p).length = if p = (lg 1).length then (lg 1).length + 1 else (lg 1).length := by
                  rw [List.length_cons, List.length_eraseIdx]
                  split <;> split <;> omega
                have z2 : (pfr 11 (nI (j / 4)) p v) (11 + 2) 1 = nI (lg 1).length := hG1.2.1
                have e43 : B_E_putInFront_43 fz 11 (nI p) (pfr 11 (nI (j / 4)) p v) = u2 (pfr 11 (nI (j / 4)) p v) 13 1 (nI ((j / 4) :: (lg 1).eraseIdx p).length) := by
                  have hl3 := hG1.1
                  rw [hlen, B_E_putInFront_43, z2]
                  by_cases c : p = (lg 1).length
                  · rw [if_pos (congrArg nI c), if_pos c, nI_1]
                  · rw [if_neg (fun r => c ((nI_eq (by omega) (by omega)).mp r)), if_neg c]
                    exact (u2_id z2.symm).symm
                rw [e43] at q2
                obtain ⟨v1, v2, v3, v4⟩ := hE1
                have hepv : ∃ epv, epv ≤ n ∧ m 31 (pv 1) = nI epv ∧ ∀ w, 1 ≤ w → w ≤ n → own w = 1 → ep w ≤ epv := by
                  rcases iE.2.2 1 (by decide) with h | ⟨h1, h2, h3⟩
                  · refine ⟨0, Nat.zero_le _, by rw [h, hT.2.2.2.1]; exact li0, fun w g1 g2 g3 => ?_⟩
                    have := iE.2.1 w g1 g2
                    rw [g3, h] at this
                    omega
                  · obtain ⟨-, -, -, f3, -⟩ := hT.2.2.2.2 (pv 1) h1 h2
                    have h4 := (iT.2 (pv 1) h1 h2).2.2.1
                    refine ⟨ep (pv 1), by omega, f3, fun w g1 g2 g3 => ?_⟩
                    have h5 := iE.2.1 w g1 g2
                    rw [g3] at h5
                    rcases Nat.lt_or_ge w (pv 1) with c | c
                    · exact iE.1 w (pv 1) g1 c h2 (by rw [g3, h3])
                    · have : w = pv 1 := by omega
                      rw [this]
                      exact Nat.le_refl _
                obtain ⟨epv, hepn, hep31, hepm⟩ := hepv
                have hCC : 0 < cn (fun w => decide (own w = 1 ∧ ft w = 1 ∧ j ≤ blk w ∧ blk w ≤ j)) 1 n ↔ bt (B_T_pendingBlocks fz (nI 1) v) j = true := by
                  rw [hpb j hj, cn_pos]
                  constructor
                  · rintro ⟨w, g1, g2, g3⟩
                    have g4 := of_decide_eq_true g3
                    exact ⟨w, g1, by omega, g4.1, g4.2.1, by omega⟩
                  · rintro ⟨w, g1, g2, g3, g4, g5⟩
                    exact ⟨w, g1, by omega, decide_eq_true ⟨g3, g4, by omega, by omega⟩⟩
                have hd : ∃ d, d ≤ 1 ∧ ((d = 1 ∧ (v 11 16 ≠ 0 ∨ bt (B_T_pendingBlocks fz (nI 1) v) j = true)) ∨ (d = 0 ∧ v 11 16 = 0 ∧ bt (B_T_pendingBlocks fz (nI 1) v) j = false)) ∧ ((d = 1 ∧ (pv 1 = 0 ∨ m 46 1 ≠ 0 ∨ 0 < cn (fun w => decide (own w = 1 ∧ ft w = 1 ∧ j ≤ blk w ∧ blk w ≤ j)) 1 n)) ∨ (d = 0 ∧ pv 1 ≠ 0 ∧ m 46 1 = 0 ∧ cn (fun w => decide (own w = 1 ∧ ft w = 1 ∧ j ≤ blk w ∧ blk w ≤ j)) 1 n = 0)) := by
                  by_cases c16 : v 11 16 = 0
                  · obtain ⟨w1, w2⟩ := v4.mp c16
                    cases hbt : bt (B_T_pendingBlocks fz (nI 1) v) j with
                    | true => exact ⟨1, Nat.le_refl _, Or.inl ⟨rfl, Or.inr rfl⟩, Or.inl ⟨rfl, Or.inr (Or.inr (hCC.mpr hbt))⟩⟩
                    | false =>
                      refine ⟨0, Nat.zero_le _, Or.inr ⟨rfl, c16, rfl⟩, Or.inr ⟨rfl, w1, w2, Nat.eq_zero_of_not_pos (fun r => ?_)⟩⟩
                      rw [hCC.mp r] at hbt
                      cases hbt
                  · refine ⟨1, Nat.le_refl _, Or.inl ⟨rfl, Or.inl c16⟩, Or.inl ⟨rfl, ?_⟩⟩
                    by_cases w1 : pv 1 = 0
                    · exact Or.inl w1
                    · exact Or.inr (Or.inl (fun w2 => c16 (v4.mpr ⟨w1, w2⟩)))
                obtain ⟨d, hd1, hdV, hdM⟩ := hd
                have hpd : P_M_pending fz (nI 1) (nI j) (nI j) (u2 (u2 (u2 mG 36 (8 * 1 + j / 4) 1) 27 11 (nI (n + 1))) 37 (8 * 1 + j / 4) (nI (n + 1))) ∧ B_M_pending fz (nI 1) (nI j) (nI j) (u2 (u2 (u2 mG 36 (8 * 1 + j / 4) 1) 27 11 (nI (n + 1))) 37 (8 * 1 + j / 4) (nI (n + 1))) = nI (cn (fun w => decide (own w = 1 ∧ ft w = 1 ∧ j ≤ blk w ∧ blk w ≤ j)) 1 n) ∧ cn (fun w => decide (own w = 1 ∧ ft w = 1 ∧ j ≤ blk w ∧ blk w ≤ j)) 1 n ≤ 300 := by
                  have h270 : (u2 (u2 (u2 mG 36 (8 * 1 + j / 4) 1) 27 11 (nI (n + 1))) 37 (8 * 1 + j / 4) (nI (n + 1))) 27 0 = nI n := (congrFun (hrow 27 (by decide)) 0).trans b0
                  obtain ⟨w1, w2⟩ := cv_pending fz hz (nI 1) (nI j) (nI j) (u2 (u2 (u2 mG 36 (8 * 1 + j / 4) 1) 27 11 (nI (n + 1))) 37 (8 * 1 + j / 4) (nI (n + 1))) hn h270
                  have hle := cn_le (fun w => decide (own w = 1 ∧ ft w = 1 ∧ j ≤ blk w ∧ blk w ≤ j)) n 1
                  refine ⟨w1, w2.trans (congrArg nI (cn_congr n 1 (fun w g1 g2 => ?_))), by omega⟩
                  obtain ⟨-, f1, f2, f3, f4⟩ := hT.2.2.2.2 w g1 (by omega)
                  obtain ⟨o1, o2, o3, o4⟩ := iT.2 w g1 (by omega)
                  have r28 : (u2 (u2 (u2 mG 36 (8 * 1 + j / 4) 1) 27 11 (nI (n + 1))) 37 (8 * 1 + j / 4) (nI (n + 1))) 28 w = nI (own w) := (congrFun (hrow 28 (by decide)) w).trans f1
                  have r29 : (u2 (u2 (u2 mG 36 (8 * 1 + j / 4) 1) 27 11 (nI (n + 1))) 37 (8 * 1 + j / 4) (nI (n + 1))) 29 w = nI (blk w) := (congrFun (hrow 29 (by decide)) w).trans f2
                  have r32 : (u2 (u2 (u2 mG 36 (8 * 1 + j / 4) 1) 27 11 (nI (n + 1))) 37 (8 * 1 + j / 4) (nI (n + 1))) 32 w = nI (ft w) := (congrFun (hrow 32 (by decide)) w).trans f4
                  have k1 : nI (own w) = nI 1 ↔ own w = 1 := nI_eq (by omega) (by omega)
                  have k2 : nI (ft w) = (1 : Int32) ↔ ft w = 1 := by rw [li1]; exact nI_eq (by omega) (by omega)
                  have k3 : nI (blk w) < nI j ↔ blk w < j := nI_ltI (by omega) (by omega)
                  have k4 : nI j < nI (blk w) ↔ j < blk w := nI_ltI (by omega) (by omega)
                  rw [r28, r29, r32]
                  simp only [k1, k2, k3, k4, Nat.not_lt]
                  exact decide_eq_decide.mpr ⟨fun r => ⟨r.2.1, r.1, r.2.2⟩, fun r => ⟨r.2.1, r.1, r.2.2⟩⟩
                obtain ⟨tM1, tM2⟩ := m_tail fz (b := 1) (j := j) (n := n) (pvb := pv 1) (epv := epv) (cP := cn (fun w => decide (own w = 1 ∧ ft w = 1 ∧ j ≤ blk w ∧ blk w ≤ j)) 1 n) (d := d) (e0 := j / 4) (by decide) hj he0 (by omega) v1 hepn z (m 46 1) mG ((congrFun (hrow 47 (by decide)) 1).trans v3) (congrFun (hrow 46 (by decide)) 1) ((congrFun (hrow 31 (by decide)) (pv 1)).trans hep31) ((congrFun (hrow 27 (by decide)) 0).trans b0) ((congrFun (hrow 27 (by decide)) 11).trans hT.2.2.1) hpd hdM
                obtain ⟨tV1, tV2⟩ := v_tail_1 fz (j := j) (n := n) (epv := epv) (d := d) hj (by omega) z (B_T_pendingBlocks fz (nI 1) v) (v 11 16) (u2 (u2 (pfr 11 (nI (j / 4)) p v) 13 1 (nI ((j / 4) :: (lg 1).eraseIdx p).length)) 12 j z) rfl (v2.trans hep31) a5 hdV
                have rr := w_rel_1 hR (by omega) (j := j) (p := p) (g := g) (e0 := j / 4) (E := epv + d) hj he0 hg8 y z hG'
                obtain ⟨w1, w2, w3⟩ := w_end_1 fz hz ht (v1 := u2 (u2 (u2 (u2 (u2 (u2 (u2 (u2 (u2 (u2 (pfr 11 (nI (j / 4)) p v) 13 1 (nI ((j / 4) :: (lg 1).eraseIdx p).length)) 12 j z) 11 15 (nI (epv + d))) 11 16 0) 21 5 (nI (n + 1))) 22 (n + 1) (nI 1)) 23 (n + 1) (nI j)) 24 (n + 1) z) 25 (n + 1) (nI (epv + d))) 26 (n + 1) 1) (m1 := u2 (u2 (u2 (u2 (u2 (u2 (u2 (u2 (u2 (u2 (u2 (u2 m 36 (8 * 1 + g) y) 36 (8 * 1 + j / 4) 1) 27 11 (nI (n + 1))) 37 (8 * 1 + j / 4) (nI (n + 1))) 27 0 (nI (n + 1))) 28 (n + 1) (nI 1)) 29 (n + 1) (nI j)) 30 (n + 1) z) 31 (n + 1) (nI (epv + d))) 47 1 (nI (n + 1))) 46 1 0) 34 (32 * 1 + j) z) (j := j) (E := epv + d) hI (by omega) hj hc (by omega) (fun w g1 g2 g3 => Nat.le_trans (hepm w g1 g2 g3) (Nat.le_add_right _ _)) rfl rfl rfl rfl rfl rfl rr
                rw [hmG] at tM1 tM2
                have eV : B_V_write fz (nI 1) (nI j) z v = B_V_write_154 fz 11 (nI (n + 1)) (u2 (u2 (u2 (u2 (u2 (u2 (u2 (u2 (u2 (u2 (pfr 11 (nI (j / 4)) p v) 13 1 (nI ((j / 4) :: (lg 1).eraseIdx p).length)) 12 j z) 11 15 (nI (epv + d))) 11 16 0) 21 5 (nI (n + 1))) 22 (n + 1) (nI 1)) 23 (n + 1) (nI j)) 24 (n + 1) z) 25 (n + 1) (nI (epv + d))) 26 (n + 1) 1) := by
                  rw [← tV2]
                  simp only [B_V_write, vN_1, mN_1, nO_1, pO_1, ixb_1, vpb_1, om_1, ixb_0, vpb_0, s5b, s13b, s6b, s14b, fj1, fj2, e4, x8, hx8, hv8, c10, c11, hfu, bV, cp, bF, npm, q2, hxj, eq_self, one0, if_true, if_false, not_true_eq_false, not_false_eq_true, true_implies, false_implies, implies_true, and_true, true_and]
                have eM : B_M_write fz (nI 1) (nI j) z m = B_M_write_283 fz (nI 1) (nI (n + 1)) (u2 (u2 (u2 (u2 (u2 (u2 (u2 (u2 (u2 (u2 (u2 (u2 m 36 (8 * 1 + g) y) 36 (8 * 1 + j / 4) 1) 27 11 (nI (n + 1))) 37 (8 * 1 + j / 4) (nI (n + 1))) 27 0 (nI (n + 1))) 28 (n + 1) (nI 1)) 29 (n + 1) (nI j)) 30 (n + 1) z) 31 (n + 1) (nI (epv + d))) 47 1 (nI (n + 1))) 46 1 0) 34 (32 * 1 + j) z) := by
                  rw [← tM2, ← hLM (fun h => B_M_write_123 fz (nI 1) (nI j) z (nI (8 * 1 + j / 4)) h)]
                  simp only [B_M_write, wLM, vN_1, mN_1, nO_1, pO_1, ixb_1, vpb_1, om_1, ixb_0, vpb_0, s5b, s13b, s6b, s14b, fj1, fj2, e4, x8, hx8, hv8, c10, c11, b0, k2, bM, cp, eq_self, one0, if_true, if_false, not_true_eq_false, not_false_eq_true, true_implies, false_implies, implies_true, and_true, true_and]
                have pVV : P_V_write fz (nI 1) (nI j) z v := by
                  have w9 := tV1 w1
                  simp only [P_V_write, pT_isNode, pT_isBlock, pT_nodeOf, P_T_isFull, vN_1, mN_1, nO_1, pO_1, ixb_1, vpb_1, om_1, ixb_0, vpb_0, s5b, s13b, s6b, s14b, fj1, fj2, e4, x8, hx8, hv8, c10, c11, hfu, pV, bV, cp, pP, pF, bF, npm, q1, q2, hxj, hvj, w9, eq_self, one0, if_true, if_false, not_true_eq_false, not_false_eq_true, true_implies, false_implies, implies_true, and_true, true_and]
                have pMM : P_M_write fz (nI 1) (nI j) z m := by
                  have w9 := hLP (fun h => P_M_write_123 fz (nI 1) (nI j) z (nI (8 * 1 + j / 4)) h) (tM1 w2)
                  unfold wLP at w9
                  simp only [P_M_write, pT_isNodeM, pT_isBlockM, vN_1, mN_1, nO_1, pO_1, ixb_1, vpb_1, om_1, ixb_0, vpb_0, s5b, s13b, s6b, s14b, fj1, fj2, e4, x8, hx8, hv8, c10, c11, b0, k2, pM, bM, cp, eq_self, one0, if_true, if_false, not_true_eq_false, not_false_eq_true, true_implies, false_implies, implies_true, and_true, true_and]
                  simp only [x8, implies_true, and_true] at w9
                  exact w9
                refine ⟨pVV, pMM, ?_⟩
                rw [eV, eM]
                exact w3
              · have eV : B_V_write fz (nI 1) (nI j) z v = (-5, v) := by simp only [B_V_write, vN_1, mN_1, nO_1, pO_1, ixb_1, vpb_1, om_1, ixb_0, vpb_0, s5b, s13b, s6b, s14b, fj1, fj2, e4, x8, hx8, hv8, c10, c11, hfu, bV, cp, bF, eq_self, one0, if_true, if_false, not_true_eq_false, not_false_eq_true, true_implies, false_implies, implies_true, and_true, true_and]
                have eM : B_M_write fz (nI 1) (nI j) z m = (-5, m) := by
                  rw [← hLM (fun h => B_M_write_123 fz (nI 1) (nI j) z (nI (8 * 1 + j / 4)) h)]
                  simp only [B_M_write, wLM, vN_1, mN_1, nO_1, pO_1, ixb_1, vpb_1, om_1, ixb_0, vpb_0, s5b, s13b, s6b, s14b, fj1, fj2, e4, x8, hx8, hv8, c10, c11, b0, k2, bM, cp, eq_self, one0, if_true, if_false, not_true_eq_false, not_false_eq_true, true_implies, false_implies, implies_true, and_true, true_and]
                have pMM : P_M_write fz (nI 1) (nI j) z m := by
                  have w9 := hLP (fun h => P_M_write_123 fz (nI 1) (nI j) z (nI (8 * 1 + j / 4)) h)
                  unfold wLP at w9
                  simp only [P_M_write, pT_isNodeM, pT_isBlockM, vN_1, mN_1, nO_1, pO_1, ixb_1, vpb_1, om_1, ixb_0, vpb_0, s5b, s13b, s6b, s14b, fj1, fj2, e4, x8, hx8, hv8, c10, c11, b0, k2, pM, bM, cp, eq_self, one0, if_true, if_false, not_true_eq_false, not_false_eq_true, true_implies, false_implies, implies_true, and_true, true_and]
                  simp only [x8, implies_true, and_true] at w9
                  exact w9
                refine ⟨by simp only [P_V_write, pT_isNode, pT_isBlock, pT_nodeOf, P_T_isFull, vN_1, mN_1, nO_1, pO_1, ixb_1, vpb_1, om_1, ixb_0, vpb_0, s5b, s13b, s6b, s14b, fj1, fj2, e4, x8, hx8, hv8, c10, c11, hfu, pV, bV, cp, pP, pF, bF, eq_self, one0, if_true, if_false, not_true_eq_false, not_false_eq_true, true_implies, false_implies, implies_true, and_true, true_and], pMM, ?_⟩
                rw [eV, eM]
                exact RS.same hJ0 _
            · have eV : B_V_write fz (nI 1) (nI j) z v = (-4, v) := by simp only [B_V_write, vN_1, mN_1, nO_1, pO_1, ixb_1, vpb_1, om_1, ixb_0, vpb_0, s5b, s13b, s6b, s14b, fj1, fj2, e4, x8, hx8, hv8, c10, c11, hfu, bV, bM, cp, b0, k2, eq_self, one0, if_true, if_false, not_true_eq_false, not_false_eq_true, true_implies, false_implies, implies_true, and_true, true_and]
              have eM : B_M_write fz (nI 1) (nI j) z m = (-4, m) := by simp only [B_M_write, vN_1, mN_1, nO_1, pO_1, ixb_1, vpb_1, om_1, ixb_0, vpb_0, s5b, s13b, s6b, s14b, fj1, fj2, e4, x8, hx8, hv8, c10, c11, hfu, bV, bM, cp, b0, k2, eq_self, one0, if_true, if_false, not_true_eq_false, not_false_eq_true, true_implies, false_implies, implies_true, and_true, true_and]
              refine ⟨by simp only [P_V_write, pT_isNode, pT_nodeOf, pT_peerOf, vN_1, mN_1, nO_1, pO_1, ixb_1, vpb_1, om_1, ixb_0, vpb_0, s5b, s13b, s6b, s14b, fj1, fj2, e4, x8, hx8, hv8, c10, c11, hfu, bV, bM, cp, b0, k2, pT_isBlock, P_T_isFull, pV, eq_self, one0, if_true, if_false, not_true_eq_false, not_false_eq_true, true_implies, false_implies, implies_true, and_true, true_and], by simp only [P_M_write, pT_isNodeM, vN_1, mN_1, nO_1, pO_1, ixb_1, vpb_1, om_1, ixb_0, vpb_0, s5b, s13b, s6b, s14b, fj1, fj2, e4, x8, hx8, hv8, c10, c11, hfu, bV, bM, cp, b0, k2, pT_isBlockM, pM, eq_self, one0, if_true, if_false, not_true_eq_false, not_false_eq_true, true_implies, false_implies, implies_true, and_true, true_and], ?_⟩
              rw [eV, eM]
              exact RS.same hJ0 _
    · have hb1 := (hb fz v).1
      have hb2 := (hb fz m).2
      have eV : B_V_write fz (nI 1) yb z v = (-1, v) := by simp only [B_V_write, vN_1, mN_1, nO_1, pO_1, ixb_1, vpb_1, om_1, ixb_0, vpb_0, s5b, s13b, s6b, s14b, hb1, hb2, eq_self, one0, if_true, if_false, not_true_eq_false, not_false_eq_true, true_implies, false_implies, implies_true, and_true, true_and]
      have eM : B_M_write fz (nI 1) yb z m = (-1, m) := by simp only [B_M_write, vN_1, mN_1, nO_1, pO_1, ixb_1, vpb_1, om_1, ixb_0, vpb_0, s5b, s13b, s6b, s14b, hb1, hb2, eq_self, one0, if_true, if_false, not_true_eq_false, not_false_eq_true, true_implies, false_implies, implies_true, and_true, true_and]
      refine ⟨by simp only [P_V_write, pT_isNode, pT_nodeOf, pT_peerOf, vN_1, mN_1, nO_1, pO_1, ixb_1, vpb_1, om_1, ixb_0, vpb_0, s5b, s13b, s6b, s14b, hb1, hb2, pT_isBlock, P_T_isFull, eq_self, one0, if_true, if_false, not_true_eq_false, not_false_eq_true, true_implies, false_implies, implies_true, and_true, true_and], by simp only [P_M_write, pT_isNodeM, vN_1, mN_1, nO_1, pO_1, ixb_1, vpb_1, om_1, ixb_0, vpb_0, s5b, s13b, s6b, s14b, hb1, hb2, pT_isBlockM, eq_self, one0, if_true, if_false, not_true_eq_false, not_false_eq_true, true_implies, false_implies, implies_true, and_true, true_and], ?_⟩
      rw [eV, eM]
      exact RS.same hJ0 _
