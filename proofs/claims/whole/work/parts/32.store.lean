theorem asc_ext {l l' : List Nat} (h : l.Pairwise (fun a b => a < b)) (h' : l'.Pairwise (fun a b => a < b)) (he : ∀ x, x ∈ l ↔ x ∈ l') : l = l' := by
  have nd : l.Nodup := h.imp (fun r => Nat.ne_of_lt r)
  have nd' : l'.Nodup := h'.imp (fun r => Nat.ne_of_lt r)
  exact List.Perm.eq_of_pairwise (le := fun a b => a < b) (fun a b _ _ r1 r2 => by omega) h h' ((List.perm_ext_iff_of_nodup nd nd').mpr he)
theorem range_asc : ∀ k a, (List.range' a k).Pairwise (fun a b => a < b)
  | 0, a => List.Pairwise.nil
  | k + 1, a => by
    rw [List.range'_succ]
    refine List.Pairwise.cons (fun x hx => ?_) (range_asc k (a + 1))
    have := (List.mem_range'_1.mp hx).1
    omega
theorem sto_none {e : Nat → Int32} {f kk : Nat} : ∀ (L : List Nat) (s : Nat), (∀ w, w ∈ L → e w ≠ e f) → sto e f kk L s = none
  | [], s, _ => rfl
  | w :: R, s, h => by
    rw [sto, if_neg (h w List.mem_cons_self)]
    exact sto_none R s (fun x hx => h x (List.mem_cons_of_mem _ hx))
theorem sto_at {e : Nat → Int32} {ep : Nat → Nat} {f kk : Nat} : ∀ (L : List Nat) (s : Nat), (∀ w, w ∈ L → (e w = e f ↔ ep w = ep f) ∧ ep f ≤ ep w) → L.Pairwise (fun a b => ep a ≤ ep b) → s ≤ kk → sto e f kk L s = match L[kk - s]? with
    | some w => if ep w = ep f then some w else none
    | none => none
  | [], s, _, _, _ => by rw [sto]; rfl
  | w :: R, s, h, hp, hs => by
    obtain ⟨h1, h2⟩ := h w List.mem_cons_self
    obtain ⟨p1, p2⟩ := List.pairwise_cons.mp hp
    rw [sto]
    by_cases c : ep w = ep f
    · rw [if_pos (h1.mpr c)]
      by_cases hk : s = kk
      · subst hk
        rw [if_pos rfl, Nat.sub_self]
        show some w = if ep w = ep f then some w else none
        rw [if_pos c]
      · rw [if_neg hk, sto_at R (s + 1) (fun x hx => h x (List.mem_cons_of_mem _ hx)) p2 (by omega)]
        have e1 : kk - s = (kk - (s + 1)) + 1 := by omega
        rw [e1, List.getElem?_cons_succ]
    · rw [if_neg (fun r => c (h1.mp r))]
      have hall : ∀ x, x ∈ w :: R → ep x ≠ ep f := by
        intro x hx
        rcases List.mem_cons.mp hx with rfl | hx
        · exact c
        · have := p1 x hx
          omega
      rw [sto_none R s (fun x hx r => hall x (List.mem_cons_of_mem _ hx) ((h x (List.mem_cons_of_mem _ hx)).1.mp r))]
      cases hg : (w :: R)[kk - s]? with
      | none => rfl
      | some x =>
        show none = if ep x = ep f then some x else none
        rw [if_neg (hall x (List.mem_of_getElem? hg))]
theorem wP_0 {n : Nat} {own blk ep ft : Nat → Nat} {sc : HH} {lk gr : Int32} {mp un : Nat → Nat → Bool} {q : Nat → List MSG} {wt : Nat → List Nat} {wx : Nat → Bool} {lg : Nat → List Nat} {us : Nat → Nat → Nat} {pv : Nat → Nat} {v m : HH} (hR : Rel n own blk ep ft sc lk gr mp un q wt wx lg us pv (v) (m)) (iT : IT n own blk ep ft) (iW : IW n own (wt 0) (wt 1) wx) {w : Nat} (h1 : 1 ≤ w) (h2 : w ≤ n) : wP 0 m w = true ↔ (own w = 1 ∧ w ∈ wt 0) := by
  obtain ⟨hL, hT, hX, hS0, hM0, hD0, hR0, hA0, hW0, hG0, hU0, hE0, hS1, hM1, hD1, hR1, hA1, hW1, hG1, hU1, hE1⟩ := hR
  have hn := iT.1
  have hx := hX w h1 (by omega)
  obtain ⟨-, f1, -⟩ := hT.2.2.2.2 w h1 h2
  have o1 := (iT.2 w h1 h2).1
  have k1 : nI (own w) = nI (1 - 0) ↔ own w = 1 := nI_eq (by omega) (by omega)
  unfold wP
  rw [hx, f1, Bool.and_eq_true, decide_eq_true_iff, k1, Bool.not_eq_true', decide_eq_false_iff_not, bi_0, Bool.not_eq_false, iW w h1 (by omega)]
  constructor
  · rintro ⟨⟨_, r⟩, ho⟩
    refine ⟨ho, ?_⟩
    rcases r with r | r
    · exact r.2
    · omega
  · rintro ⟨ho, r⟩
    exact ⟨⟨h2, Or.inl ⟨ho, r⟩⟩, ho⟩
theorem wL_0 {n : Nat} {own blk ep ft : Nat → Nat} {sc : HH} {lk gr : Int32} {mp un : Nat → Nat → Bool} {q : Nat → List MSG} {wt : Nat → List Nat} {wx : Nat → Bool} {lg : Nat → List Nat} {us : Nat → Nat → Nat} {pv : Nat → Nat} {v m : HH} (hR : Rel n own blk ep ft sc lk gr mp un q wt wx lg us pv (v) (m)) (iT : IT n own blk ep ft) (iW : IW n own (wt 0) (wt 1) wx) (hasc : (wt 0).Pairwise (fun a b => a < b)) (hin : ∀ w, w ∈ wt 0 → (1 ≤ w ∧ w ≤ n) ∧ own w = 1) : (List.range' 1 n).filter (wP 0 m) = wt 0 := by
  refine asc_ext (List.Pairwise.filter _ (range_asc n 1)) hasc (fun w => ?_)
  rw [List.mem_filter, List.mem_range'_1]
  constructor
  · rintro ⟨⟨g1, g2⟩, g3⟩
    exact ((wP_0 hR iT iW g1 (by omega)).mp g3).2
  · intro hw
    obtain ⟨⟨g1, g2⟩, g3⟩ := hin w hw
    exact ⟨⟨g1, by omega⟩, (wP_0 hR iT iW g1 g2).mpr ⟨g3, hw⟩⟩
theorem wP_1 {n : Nat} {own blk ep ft : Nat → Nat} {sc : HH} {lk gr : Int32} {mp un : Nat → Nat → Bool} {q : Nat → List MSG} {wt : Nat → List Nat} {wx : Nat → Bool} {lg : Nat → List Nat} {us : Nat → Nat → Nat} {pv : Nat → Nat} {v m : HH} (hR : Rel n own blk ep ft sc lk gr mp un q wt wx lg us pv (v) (m)) (iT : IT n own blk ep ft) (iW : IW n own (wt 0) (wt 1) wx) {w : Nat} (h1 : 1 ≤ w) (h2 : w ≤ n) : wP 1 m w = true ↔ (own w = 0 ∧ w ∈ wt 1) := by
  obtain ⟨hL, hT, hX, hS0, hM0, hD0, hR0, hA0, hW0, hG0, hU0, hE0, hS1, hM1, hD1, hR1, hA1, hW1, hG1, hU1, hE1⟩ := hR
  have hn := iT.1
  have hx := hX w h1 (by omega)
  obtain ⟨-, f1, -⟩ := hT.2.2.2.2 w h1 h2
  have o1 := (iT.2 w h1 h2).1
  have k1 : nI (own w) = nI (1 - 1) ↔ own w = 0 := nI_eq (by omega) (by omega)
  unfold wP
  rw [hx, f1, Bool.and_eq_true, decide_eq_true_iff, k1, Bool.not_eq_true', decide_eq_false_iff_not, bi_0, Bool.not_eq_false, iW w h1 (by omega)]
  constructor
  · rintro ⟨⟨_, r⟩, ho⟩
    refine ⟨ho, ?_⟩
    rcases r with r | r
    · omega
    · exact r.2
  · rintro ⟨ho, r⟩
    exact ⟨⟨h2, Or.inr ⟨ho, r⟩⟩, ho⟩
theorem wL_1 {n : Nat} {own blk ep ft : Nat → Nat} {sc : HH} {lk gr : Int32} {mp un : Nat → Nat → Bool} {q : Nat → List MSG} {wt : Nat → List Nat} {wx : Nat → Bool} {lg : Nat → List Nat} {us : Nat → Nat → Nat} {pv : Nat → Nat} {v m : HH} (hR : Rel n own blk ep ft sc lk gr mp un q wt wx lg us pv (v) (m)) (iT : IT n own blk ep ft) (iW : IW n own (wt 0) (wt 1) wx) (hasc : (wt 1).Pairwise (fun a b => a < b)) (hin : ∀ w, w ∈ wt 1 → (1 ≤ w ∧ w ≤ n) ∧ own w = 0) : (List.range' 1 n).filter (wP 1 m) = wt 1 := by
  refine asc_ext (List.Pairwise.filter _ (range_asc n 1)) hasc (fun w => ?_)
  rw [List.mem_filter, List.mem_range'_1]
  constructor
  · rintro ⟨⟨g1, g2⟩, g3⟩
    exact ((wP_1 hR iT iW g1 (by omega)).mp g3).2
  · intro hw
    obtain ⟨⟨g1, g2⟩, g3⟩ := hin w hw
    exact ⟨⟨g1, by omega⟩, (wP_1 hR iT iW g1 g2).mpr ⟨g3, hw⟩⟩
theorem PL_w {qo qb : List MSG} {wo : List Nat} {w : Nat} (h : w ∈ wo) : (0, w) ∈ PL qo wo qb := List.mem_append_right _ (List.mem_append_left _ (List.mem_map.mpr ⟨w, h, rfl⟩))
theorem wmp_len {n : Nat} {own blk ft : Nat → Nat} {b : Nat} {src : Int32} {mpb unb : Nat → Bool} {qo qb : List MSG} {wo : List Nat} (h : IN n own blk ft b src mpb unb (PL qo wo qb)) : (fwd qb).length ≤ 12 ∧ (bck qo).length ≤ 12 := by
  have := h.len.1
  unfold PL at this
  rw [List.length_append, List.length_append] at this
  omega
theorem IN.congrU {n : Nat} {own blk ft : Nat → Nat} {b : Nat} {src : Int32} {mpb mpb' unb unb' : Nat → Bool} {L : List (Nat × Nat)} (h : IN n own blk ft b src mpb unb L) (hu : ∀ j, j < 32 → unb' j = unb j) (hm : ∀ j, j < 32 → mpb' j = mpb j) : IN n own blk ft b src mpb' unb' L := by
  obtain ⟨h1, h2, h3, h4, h5, h6, h7, h8⟩ := h
  exact ⟨h1, h2, h3, fun j hj => ⟨(h4 j hj).1, (hm j (h4 j hj).1).trans (h4 j hj).2.1, (h4 j hj).2.2⟩, h5, h6, fun j hj => by rw [hu j hj]; exact h7 j hj, h8⟩
theorem IQ.tail {a : MSG} {l : List MSG} {s0 s1 : Int32} (h : IQ (a :: l) s0 s1) : IQ l s0 s1 := by
  obtain ⟨h1, h2, h3⟩ := h
  refine ⟨fun x hx => h1 x (List.mem_cons_of_mem _ hx), fun x hx => h2 x (List.mem_cons_of_mem _ hx), ?_⟩
  rw [List.filter_cons] at h3
  split at h3
  · rw [List.length_cons] at h3
    omega
  · exact h3
theorem IQ.snoc {a : MSG} {l : List MSG} {s0 s1 : Int32} (h : IQ l s0 s1) (h1 : 1 ≤ a.1) (h5 : a.1 < 5) : IQ (l ++ [a]) s0 s1 := by
  obtain ⟨u1, u2', u3⟩ := h
  refine ⟨fun x hx => ?_, fun x hx h => ?_, ?_⟩
  · rcases List.mem_append.mp hx with hx | hx
    · exact u1 x hx
    · rw [List.mem_singleton.mp hx]
      omega
  · rcases List.mem_append.mp hx with hx | hx
    · exact u2' x hx h
    · rw [List.mem_singleton.mp hx] at h
      omega
  · have e : (List.filter (fun x : MSG => x.1 == 5) [a]) = [] := by
      have : ¬ a.1 = 5 := by omega
      simp [this]
    rw [List.filter_append, e, List.append_nil]
    exact u3
theorem qroom {l : List MSG} {s0 s1 : Int32} (h : IQ l s0 s1) (h1 : (fwd l).length + (bck l).length ≤ 23) : l.length < 25 := by
  have := qlen h.1
  have := h.2.2
  omega
theorem IN.both {n : Nat} {own blk ft : Nat → Nat} {b : Nat} {src : Int32} {mpb unb : Nat → Bool} {qo qb : List MSG} {wo : List Nat} (h : IN n own blk ft b src mpb unb (PL qo wo qb)) : (bck qo).length + wo.length + (fwd qb).length ≤ 12 := by
  have := h.len.1
  unfold PL wmp at this
  rw [List.length_append, List.length_append, List.length_map] at this
  omega
theorem at_head {e : Nat → Int32} {ep : Nat → Nat} {kk w0 : Nat} {R : List Nat} (h : ∀ w, w ∈ w0 :: R → (e w = e w0 ↔ ep w = ep w0) ∧ ep w0 ≤ ep w) (hp : (w0 :: R).Pairwise (fun a b => ep a ≤ ep b)) : sto0 e kk (w0 :: R) = match (w0 :: R)[kk]? with
    | some w => if ep w = ep w0 then some w else none
    | none => none := by
  rw [sto0, sto_at (w0 :: R) 0 h hp (Nat.zero_le _), Nat.sub_zero]
theorem mem_eraseN {l : List Nat} {k w x : Nat} (nd : l.Pairwise (fun a b => a < b)) (hk : l[k]? = some w) : x ∈ l.eraseIdx k ↔ x ∈ l ∧ x ≠ w := by
  induction l generalizing k with
  | nil => cases hk
  | cons a l ih =>
    obtain ⟨p1, p2⟩ := List.pairwise_cons.mp nd
    cases k with
    | zero =>
      have e : a = w := by simpa using hk
      subst e
      rw [List.eraseIdx_cons_zero, List.mem_cons]
      constructor
      · intro hx
        have := p1 x hx
        exact ⟨Or.inr hx, by omega⟩
      · rintro ⟨hx | hx, hn⟩
        · exact absurd hx hn
        · exact hx
    | succ k =>
      have hk' : l[k]? = some w := by simpa using hk
      have hw : w ∈ l := List.mem_of_getElem? hk'
      have := p1 w hw
      rw [List.eraseIdx_cons_succ, List.mem_cons, List.mem_cons, ih p2 hk']
      constructor
      · rintro (hx | ⟨hx, hn⟩)
        · exact ⟨Or.inl hx, by omega⟩
        · exact ⟨Or.inr hx, hn⟩
      · rintro ⟨hx | hx, hn⟩
        · exact Or.inl hx
        · exact Or.inr ⟨hx, hn⟩
theorem S_store (fz : Nat) (hz : 400 ≤ fz) {t : Nat} (ht : t ≤ 600) {v m : HH} (hJ : J2 t v m) (x : Int32) (y : Int32) : P_V_store fz x y v ∧ P_M_store fz x y m ∧ RS t (B_V_store fz x y v) (B_M_store fz x y m) := by
  rcases ndc x with ⟨h0, h1⟩ | rfl | rfl
  · have eV : B_V_store fz x y v = (0, v) := by simp only [B_V_store, vN_n fz v h0 h1, eq_self, one0, if_true, if_false, not_true_eq_false, not_false_eq_true, true_implies, false_implies, implies_true, and_true, true_and]
    have eM : B_M_store fz x y m = (0, m) := by simp only [B_M_store, mN_n fz m h0 h1, eq_self, one0, if_true, if_false, not_true_eq_false, not_false_eq_true, true_implies, false_implies, implies_true, and_true, true_and]
    refine ⟨by simp only [P_V_store, pT_isNode, vN_n fz v h0 h1, eq_self, one0, if_true, if_false, not_true_eq_false, not_false_eq_true, true_implies, false_implies, implies_true, and_true, true_and], by simp only [P_M_store, pT_isNodeM, mN_n fz m h0 h1, eq_self, one0, if_true, if_false, not_true_eq_false, not_false_eq_true, true_implies, false_implies, implies_true, and_true, true_and], ?_⟩
    rw [eV, eM]
    exact RS.same hJ _
  · have hJ0 := hJ
    obtain ⟨n, own, blk, ep, ft, sc, lk, gr, mp, un, q, wt, wx, lg, us, pv, hR, hI⟩ := hJ
    have hR' := hR
    obtain ⟨hL, hT, hX, hS0, hM0, hD0, hR0, hA0, hW0, hG0, hU0, hE0, hS1, hM1, hD1, hR1, hA1, hW1, hG1, hU1, hE1⟩ := hR'
    have hI' := hI
    obtain ⟨iT, iG, iN0, iN1, iQ0, iQ1, iR0, iR1, iW, iC, iK, iE⟩ := hI'
    obtain ⟨s0a, s1a, s2a, s3a, s4a, s5a, s6a, s7a, s8a, s9a, s10a, s11a, s12a, s13a, s14a, s15a, s16a⟩ := hS0
    obtain ⟨s0b, s1b, s2b, s3b, s4b, s5b, s6b, s7b, s8b, s9b, s10b, s11b, s12b, s13b, s14b, s15b, s16b⟩ := hS1
    obtain ⟨l1, l2, l3, l4⟩ := hL
    have hn := iT.1
    have hin : ∀ w, w ∈ wt 0 → (1 ≤ w ∧ w ≤ n) ∧ own w = 1 ∧ ft w = 1 := fun w hw => (iN1.2.2.1 w).mp (PL_w hw)
    have hasc : (wt 0).Pairwise (fun a b => a < b) := (List.pairwise_append.mp iR1).1
    have hfl := wL_0 hR iT iW hasc (fun w hw => ⟨(hin w hw).1, (hin w hw).2.1⟩)
    obtain ⟨k1, k2, k3⟩ := hW0
    by_cases c0 : y < 0
    · have c0' : ¬ 0 ≤ y := Int32.not_le.mpr c0
      have eV : B_V_store fz (nI 0) y v = (0, v) := by simp only [B_V_store, vN_0, mN_0, nO_0, pO_0, ixb_0, vpb_0, om_0, ixb_1, vpb_1, c0, c0', eq_self, one0, if_true, if_false, not_true_eq_false, not_false_eq_true, true_implies, false_implies, implies_true, and_true, true_and]
      have eM : B_M_store fz (nI 0) y m = (0, m) := by simp only [B_M_store, vN_0, mN_0, nO_0, pO_0, ixb_0, vpb_0, om_0, ixb_1, vpb_1, c0, c0', eq_self, one0, if_true, if_false, not_true_eq_false, not_false_eq_true, true_implies, false_implies, implies_true, and_true, true_and]
      refine ⟨by simp only [P_V_store, pT_isNode, pT_nodeOf, pT_peerOf, vN_0, mN_0, nO_0, pO_0, ixb_0, vpb_0, om_0, ixb_1, vpb_1, c0, c0', eq_self, one0, if_true, if_false, not_true_eq_false, not_false_eq_true, true_implies, false_implies, implies_true, and_true, true_and], by simp only [P_M_store, pT_isNodeM, vN_0, mN_0, nO_0, pO_0, ixb_0, vpb_0, om_0, ixb_1, vpb_1, c0, c0', eq_self, one0, if_true, if_false, not_true_eq_false, not_false_eq_true, true_implies, false_implies, implies_true, and_true, true_and], ?_⟩
      rw [eV, eM]
      exact RS.same hJ0 _
    · have c0' : 0 ≤ y := Int32.not_lt.mp c0
      obtain ⟨kk, hkk, rfl⟩ := nI_of c0
      have hroom : ∀ w, w ∈ wt 0 → (q 0).length < 25 := by
        intro w hw
        have h1 := iN1.both
        have h2 := iN0.both
        have h3 := List.length_pos_of_mem hw
        exact qroom iQ0 (by omega)
      have hP : ∀ w, 1 ≤ w → w ≤ n → wP 0 m w = true → P_M_store_90 fz (nI 0) (nI w) (u2 m 33 w 0) := by
        intro w h1 h2 hw
        have hwt := ((wP_0 hR iT iW h1 h2).mp hw).2
        obtain ⟨-, f1, f2, f3, f4⟩ := hT.2.2.2.2 w h1 h2
        have hb := (iT.2 w h1 h2).2.1
        have hxw : ix (nI w) = w := nI_clamp (by omega)
        have hvw : vp_in (nI w) 301 := vp_in_nI (by omega) (by decide)
        have f2' : (u2 m 33 w 0) 29 w = nI (blk w) := f2
        have hv : vp_in (nI (32 * 0 + blk w)) 64 := vp_in_nI (by omega) (by decide)
        have hx : ix (nI (32 * 0 + blk w)) = 32 * 0 + blk w := nI_clamp (by omega)
        have hs := cv_msend fz (b := 0) (by decide) 2 (nI w) 0 (u2 (u2 m 33 w 0) 34 (32 * 0 + blk w) ((u2 m 33 w 0) 30 w)) (hroom w hwt) hA0.1
        simp only [P_M_store_90, P_M_store_114, hxw, hvw, f2', x32, hx, hv, hs.1, eq_self, one0, if_true, if_false, not_true_eq_false, not_false_eq_true, true_implies, false_implies, implies_true, and_true, true_and]
      have cm := cv_store fz hz (b := 0) (by decide) hn hkk m hT.2.1 hP
      rw [hfl] at cm
      have k2' : v 9 1 = nI (wt 0).length := k2
      have k2'' : v (1 + 8) 1 = nI (wt 0).length := k2
      rcases Nat.lt_or_ge kk (wt 0).length with hlt | hge
      · have glt : nI kk < nI (wt 0).length := nI_lt hlt (by omega)
        have gge : ¬ nI (wt 0).length ≤ nI kk := nI_ge hlt (by omega)
        obtain ⟨w, hw⟩ : ∃ w, (wt 0)[kk]? = some w := ⟨_, List.getElem?_eq_getElem hlt⟩
        cases hwt : wt 0 with
        | nil => rw [hwt] at hlt; cases hlt
        | cons w0 Rr =>
        have hw0 : (wt 0)[0]? = some w0 := by rw [hwt]; rfl
        have m0 : w0 ∈ wt 0 := List.mem_of_getElem? hw0
        have mw : w ∈ wt 0 := List.mem_of_getElem? hw
        obtain ⟨⟨a1, a2⟩, a3, a4⟩ := hin w mw
        obtain ⟨⟨z1, z2⟩, z3, z4⟩ := hin w0 m0
        obtain ⟨⟨e1, e2, e3, e4, e5⟩, f1, f2, f3, f4⟩ := hT.2.2.2.2 w a1 a2
        obtain ⟨⟨y1, y2, y3, y4, y5⟩, x1, x2, x3, x4⟩ := hT.2.2.2.2 w0 z1 z2
        obtain ⟨o1, o2, o3, o4⟩ := iT.2 w a1 a2
        have o3' := (iT.2 w0 z1 z2).2.2.1
        have hkx : ix (nI kk) = kk := nI_clamp hkk
        have hkv : vp_in (nI kk) 8 := vp_in_nI (by omega) (by decide)
        have h0x : ix (0 : Int32) = 0 := by decide
        have h0v : vp_in (0 : Int32) 8 := by rw [li0]; exact vp_in_nI (by decide) (by decide)
        have hxw : ix (nI w) = w := nI_clamp (by omega)
        have hvw : vp_in (nI w) 301 := vp_in_nI (by omega) (by decide)
        have hxw0 : ix (nI w0) = w0 := nI_clamp (by omega)
        have hvw0 : vp_in (nI w0) 301 := vp_in_nI (by omega) (by decide)
        have r9 : v (1 + 9) kk = nI w := k3 kk w hw
        have r90 : v (1 + 9) 0 = nI w0 := k3 0 w0 hw0
        have g00 : ¬ (0 : Int32) < 0 := by decide
        have gl0 : ¬ nI (wt 0).length ≤ 0 := nI_nle (by omega) (by omega)
        have nA : B_L_numberAt fz 1 (nI kk) v = nI w := by simp only [B_L_numberAt, c0, k2'', gge, hkx, r9, eq_self, one0, if_true, if_false, not_true_eq_false, not_false_eq_true, true_implies, false_implies, implies_true, and_true, true_and]
        have nB : B_L_numberAt fz 1 0 v = nI w0 := by simp only [B_L_numberAt, g00, k2'', gl0, h0x, r90, eq_self, one0, if_true, if_false, not_true_eq_false, not_false_eq_true, true_implies, false_implies, implies_true, and_true, true_and]
        have pA : P_L_numberAt fz 1 (nI kk) v := by simp only [P_L_numberAt, c0, k2'', gge, hkv, eq_self, one0, if_true, if_false, not_true_eq_false, not_false_eq_true, true_implies, false_implies, implies_true, and_true, true_and]
        have pB : P_L_numberAt fz 1 0 v := by simp only [P_L_numberAt, g00, k2'', gl0, h0v, eq_self, one0, if_true, if_false, not_true_eq_false, not_false_eq_true, true_implies, false_implies, implies_true, and_true, true_and]
        have hE : ∀ x, x ∈ wt 0 → (m 31 x = m 31 w0 ↔ ep x = ep w0) ∧ ep w0 ≤ ep x := by
          intro x hx
          obtain ⟨⟨b1, b2⟩, b3, b4⟩ := hin x hx
          obtain ⟨-, -, -, t3, -⟩ := hT.2.2.2.2 x b1 b2
          have t5 := (iT.2 x b1 b2).2.2.1
          refine ⟨by rw [t3, x3]; exact nI_eq (by omega) (by omega), ?_⟩
          rw [hwt] at hx
          rcases List.mem_cons.mp hx with rfl | hx
          · exact Nat.le_refl _
          · rw [hwt] at hasc
            exact iE.1 w0 x z1 ((List.pairwise_cons.mp hasc).1 x hx) b2 (by rw [z3, b3])
        have hpw : (wt 0).Pairwise (fun a b => ep a ≤ ep b) := List.Pairwise.imp_of_mem (fun {a b} ha hb hab => iE.1 a b (hin a ha).1.1 hab (hin b hb).1.2 (by rw [(hin a ha).2.1, (hin b hb).2.1])) hasc
        have hst : sto0 (m 31) kk (wt 0) = if ep w = ep w0 then some w else none := by
          have h9 := hE
          have h8 := hpw
          have h7 := hw
          rw [hwt] at h9 h8 h7 ⊢
          rw [at_head h9 h8, h7]
        rw [hst] at cm
        by_cases ce : ep w = ep w0
        · rw [if_pos ce] at cm
          have eq25 : nI (ep w) = nI (ep w0) := congrArg nI ce
          obtain ⟨p1, r1⟩ := r_wrem_0 fz hz hR hw (x := nI kk) rfl
          have r2 := r_disk_0 (r_wx r1 a1 false (x := 0) rfl) o2 (m 30 w)
          have hlr := hroom w mw
          obtain ⟨p2, p3, r3⟩ := r_send_0 fz r2 hlr (2, w, 0) (k := 2) (s := nI w) (x := 0) (k2 := 2) (s2 := nI w) (x2 := 0) li2 rfl rfl li2 rfl rfl
          have t23 : (B_L_remove fz 1 (nI kk) v) 23 w = nI (blk w) ∧ (B_L_remove fz 1 (nI kk) v) 24 w = m 30 w := by
            obtain ⟨kL, kT, kX, kS0, kM0, kD0, kR0, kA0, kW0, kG0, kU0, kE0, kS1, kM1, kD1, kR1, kA1, kW1, kG1, kU1, kE1⟩ := r1
            obtain ⟨⟨q1, q2, q3, q4, q5⟩, -⟩ := kT.2.2.2.2 w a1 a2
            exact ⟨q2, q3⟩
          have hvb : vp_in (nI (blk w)) 32 := vp_in_nI o2 (by decide)
          have hxb : ix (nI (blk w)) = blk w := nI_clamp (by omega)
          have f2' : (u2 m 33 w 0) 29 w = nI (blk w) := f2
          have f30 : (u2 m 33 w 0) 30 w = m 30 w := rfl
          have hx64 : ix (nI (32 * 0 + blk w)) = 32 * 0 + blk w := nI_clamp (by omega)
          have eV : B_V_store fz (nI 0) (nI kk) v = (nI w, B_O_send fz 1 2 (nI w) 0 (u2 (B_L_remove fz 1 (nI kk) v) 2 (blk w) (m 30 w))) := by
            simp only [B_V_store, B_V_store_79, B_V_store_104, vN_0, mN_0, nO_0, pO_0, ixb_0, vpb_0, om_0, ixb_1, vpb_1, c0, k2', k2'', glt, nA, nB, hxw, hxw0, e4, y4, eq25, t23.1, t23.2, hxb, eq_self, one0, if_true, if_false, not_true_eq_false, not_false_eq_true, true_implies, false_implies, implies_true, and_true, true_and]
          have eM : B_M_store fz (nI 0) (nI kk) m = (nI w, B_M_send fz (nI 0) 2 (nI w) 0 (u2 (u2 m 33 w 0) 34 (32 * 0 + blk w) (m 30 w))) := by
            simp only [B_M_store, vN_0, mN_0, nO_0, pO_0, ixb_0, vpb_0, om_0, ixb_1, vpb_1, c0', cm, B_M_store_90, B_M_store_114, hxw, f2', f30, x32, hx64, eq_self, one0, if_true, if_false, not_true_eq_false, not_false_eq_true, true_implies, false_implies, implies_true, and_true, true_and]
          refine ⟨by simp only [P_V_store, P_V_store_79, P_V_store_104, pT_isNode, pT_nodeOf, vN_0, mN_0, nO_0, pO_0, ixb_0, vpb_0, om_0, ixb_1, vpb_1, c0, k2', k2'', glt, nA, nB, pA, pB, hxw, hxw0, hvw, hvw0, e4, y4, eq25, p1, t23.1, t23.2, hvb, hxb, p2, eq_self, one0, if_true, if_false, not_true_eq_false, not_false_eq_true, true_implies, false_implies, implies_true, and_true, true_and], by simp only [P_M_store, pT_isNodeM, vN_0, mN_0, nO_0, pO_0, ixb_0, vpb_0, om_0, ixb_1, vpb_1, c0', cm, eq_self, one0, if_true, if_false, not_true_eq_false, not_false_eq_true, true_implies, false_implies, implies_true, and_true, true_and], ?_⟩
          rw [eV, eM]
          have hJm := hI.mono (show t ≤ t + 1 by omega)
          obtain ⟨jT, jG, jN0, jN1, jQ0, jQ1, jR0, jR1, jW, jC, jK, jE⟩ := hJm
          have hb2 : bck (q 0 ++ [(2, w, 0)]) = bck (q 0) ++ [(0, w)] := bck_app _ _
          have hf2 : fwd (q 0 ++ [(2, w, 0)]) = fwd (q 0) := (fwd_app _ _).trans (List.append_nil _)
          have hd2 : dat (q 0 ++ [(2, w, 0)]) = dat (q 0) := (dat_app _ _).trans (List.append_nil _)
          have nO : IN n own blk ft 1 (sc 12 1) (mp 1) (un 1) (PL (q 0 ++ [(2, w, 0)]) ((wt 0).eraseIdx kk) (q 1)) := by
            have hp := jN1
            unfold PL at hp ⊢
            rw [hb2]
            exact hp.perm (store_perm hw) (store_order hw hp.2.2.2.2.1)
          have nB' : IN n own blk ft 0 (sc 12 0) (mp 0) (un 0) (PL (q 1) (wt 1) (q 0 ++ [(2, w, 0)])) := by
            have hp := jN0
            unfold PL at hp ⊢
            rw [hf2]
            exact hp
          have nQ : IQ (q 0 ++ [(2, w, 0)]) (sc 12 0) (sc 12 1) := by
            exact jQ0.snoc (show 1 ≤ 2 by decide) (show 2 < 5 by decide)
          have nRo : IR ((wt 0).eraseIdx kk) (q 1) := List.Pairwise.sublist ((List.eraseIdx_sublist _ _).append (List.Sublist.refl _)) jR1
          have nRb : IR (wt 1) (q 0 ++ [(2, w, 0)]) := by
            unfold IR
            rw [hd2]
            exact jR0
          have nW : IW n own ((wt 0).eraseIdx kk) (wt 1) (ug wx w false) := by
            intro x g1 g2
            unfold ug
            by_cases ex : x = w
            · subst ex
              rw [if_pos rfl]
              refine ⟨fun r => (by cases r), fun r => ?_⟩
              rcases r.2 with r | r
              · exact absurd rfl ((mem_eraseN hasc hw).mp r.2).2
              · omega
            · rw [if_neg ex, jW x g1 g2, mem_eraseN hasc hw]
              simp only [ex, ne_eq, not_false_eq_true, and_true]
          have nK : IK lk (q 0 ++ [(2, w, 0)]) (q 1) ((wt 0).eraseIdx kk) (wt 1) (sc 12 0) (sc 12 1) := by
            intro hl
            have := (jK hl).2.2.1
            rw [this] at mw
            cases mw
          exact ⟨rfl, n, own, blk, ep, ft, sc, lk, gr, mp, un, ug q 0 (q 0 ++ [(2, w, 0)]), ug wt 0 ((wt 0).eraseIdx kk), ug wx w false, lg, us, pv, r3, jT, jG, nB', nO, nQ, jQ1, nRb, nRo, nW, jC, nK, jE⟩
        · rw [if_neg ce] at cm
          have ne25 : ¬ nI (ep w) = nI (ep w0) := fun r => ce ((nI_eq (by omega) (by omega)).mp r)
          have eV : B_V_store fz (nI 0) (nI kk) v = (0, v) := by simp only [B_V_store, vN_0, mN_0, nO_0, pO_0, ixb_0, vpb_0, om_0, ixb_1, vpb_1, c0, c0', k2', k2'', glt, nA, nB, hxw, hxw0, e4, y4, ne25, cm, eq_self, one0, if_true, if_false, not_true_eq_false, not_false_eq_true, true_implies, false_implies, implies_true, and_true, true_and]
          have eM : B_M_store fz (nI 0) (nI kk) m = (0, m) := by simp only [B_M_store, vN_0, mN_0, nO_0, pO_0, ixb_0, vpb_0, om_0, ixb_1, vpb_1, c0, c0', k2', k2'', glt, nA, nB, hxw, hxw0, e4, y4, ne25, cm, eq_self, one0, if_true, if_false, not_true_eq_false, not_false_eq_true, true_implies, false_implies, implies_true, and_true, true_and]
          refine ⟨by simp only [P_V_store, pT_isNode, pT_nodeOf, pT_peerOf, vN_0, mN_0, nO_0, pO_0, ixb_0, vpb_0, om_0, ixb_1, vpb_1, c0, c0', k2', k2'', glt, nA, nB, hxw, hxw0, e4, y4, ne25, cm, pA, pB, hvw, hvw0, eq_self, one0, if_true, if_false, not_true_eq_false, not_false_eq_true, true_implies, false_implies, implies_true, and_true, true_and], by simp only [P_M_store, pT_isNodeM, vN_0, mN_0, nO_0, pO_0, ixb_0, vpb_0, om_0, ixb_1, vpb_1, c0, c0', k2', k2'', glt, nA, nB, hxw, hxw0, e4, y4, ne25, cm, eq_self, one0, if_true, if_false, not_true_eq_false, not_false_eq_true, true_implies, false_implies, implies_true, and_true, true_and], ?_⟩
          rw [eV, eM]
          exact RS.same hJ0 _
      · have glt : ¬ nI kk < nI (wt 0).length := nI_nlt hge (by omega)
        have hno : (wt 0)[kk]? = none := List.getElem?_eq_none hge
        have hst : sto0 (m 31) kk (wt 0) = none := by
          cases hwt : wt 0 with
          | nil => rfl
          | cons w0 Rr =>
            have m0 : w0 ∈ wt 0 := by rw [hwt]; exact List.mem_cons_self
            obtain ⟨⟨z1, z2⟩, z3, z4⟩ := hin w0 m0
            obtain ⟨-, x1, x2, x3, x4⟩ := hT.2.2.2.2 w0 z1 z2
            have o3' := (iT.2 w0 z1 z2).2.2.1
            have hE : ∀ x, x ∈ wt 0 → (m 31 x = m 31 w0 ↔ ep x = ep w0) ∧ ep w0 ≤ ep x := by
              intro x hx
              obtain ⟨⟨b1, b2⟩, b3, b4⟩ := hin x hx
              obtain ⟨-, -, -, t3, -⟩ := hT.2.2.2.2 x b1 b2
              have t5 := (iT.2 x b1 b2).2.2.1
              refine ⟨by rw [t3, x3]; exact nI_eq (by omega) (by omega), ?_⟩
              rw [hwt] at hx
              rcases List.mem_cons.mp hx with rfl | hx
              · exact Nat.le_refl _
              · rw [hwt] at hasc
                exact iE.1 w0 x z1 ((List.pairwise_cons.mp hasc).1 x hx) b2 (by rw [z3, b3])
            have hpw : (wt 0).Pairwise (fun a b => ep a ≤ ep b) := List.Pairwise.imp_of_mem (fun {a b} ha hb hab => iE.1 a b (hin a ha).1.1 hab (hin b hb).1.2 (by rw [(hin a ha).2.1, (hin b hb).2.1])) hasc
            rw [hwt] at hE hpw hno
            rw [at_head hE hpw, hno]
        rw [hst] at cm
        have eV : B_V_store fz (nI 0) (nI kk) v = (0, v) := by simp only [B_V_store, vN_0, mN_0, nO_0, pO_0, ixb_0, vpb_0, om_0, ixb_1, vpb_1, c0, c0', k2', k2'', glt, cm, eq_self, one0, if_true, if_false, not_true_eq_false, not_false_eq_true, true_implies, false_implies, implies_true, and_true, true_and]
        have eM : B_M_store fz (nI 0) (nI kk) m = (0, m) := by simp only [B_M_store, vN_0, mN_0, nO_0, pO_0, ixb_0, vpb_0, om_0, ixb_1, vpb_1, c0, c0', k2', k2'', glt, cm, eq_self, one0, if_true, if_false, not_true_eq_false, not_false_eq_true, true_implies, false_implies, implies_true, and_true, true_and]
        refine ⟨by simp only [P_V_store, pT_isNode, pT_nodeOf, pT_peerOf, vN_0, mN_0, nO_0, pO_0, ixb_0, vpb_0, om_0, ixb_1, vpb_1, c0, c0', k2', k2'', glt, cm, eq_self, one0, if_true, if_false, not_true_eq_false, not_false_eq_true, true_implies, false_implies, implies_true, and_true, true_and], by simp only [P_M_store, pT_isNodeM, vN_0, mN_0, nO_0, pO_0, ixb_0, vpb_0, om_0, ixb_1, vpb_1, c0, c0', k2', k2'', glt, cm, eq_self, one0, if_true, if_false, not_true_eq_false, not_false_eq_true, true_implies, false_implies, implies_true, and_true, true_and], ?_⟩
        rw [eV, eM]
        exact RS.same hJ0 _
  · have hJ0 := hJ
    obtain ⟨n, own, blk, ep, ft, sc, lk, gr, mp, un, q, wt, wx, lg, us, pv, hR, hI⟩ := hJ
    have hR' := hR
    obtain ⟨hL, hT, hX, hS0, hM0, hD0, hR0, hA0, hW0, hG0, hU0, hE0, hS1, hM1, hD1, hR1, hA1, hW1, hG1, hU1, hE1⟩ := hR'
    have hI' := hI
    obtain ⟨iT, iG, iN0, iN1, iQ0, iQ1, iR0, iR1, iW, iC, iK, iE⟩ := hI'
    obtain ⟨s0a, s1a, s2a, s3a, s4a, s5a, s6a, s7a, s8a, s9a, s10a, s11a, s12a, s13a, s14a, s15a, s16a⟩ := hS0
    obtain ⟨s0b, s1b, s2b, s3b, s4b, s5b, s6b, s7b, s8b, s9b, s10b, s11b, s12b, s13b, s14b, s15b, s16b⟩ := hS1
    obtain ⟨l1, l2, l3, l4⟩ := hL
    have hn := iT.1
    have hin : ∀ w, w ∈ wt 1 → (1 ≤ w ∧ w ≤ n) ∧ own w = 0 ∧ ft w = 1 := fun w hw => (iN0.2.2.1 w).mp (PL_w hw)
    have hasc : (wt 1).Pairwise (fun a b => a < b) := (List.pairwise_append.mp iR0).1
    have hfl := wL_1 hR iT iW hasc (fun w hw => ⟨(hin w hw).1, (hin w hw).2.1⟩)
    obtain ⟨k1, k2, k3⟩ := hW1
    by_cases c0 : y < 0
    · have c0' : ¬ 0 ≤ y := Int32.not_le.mpr c0
      have eV : B_V_store fz (nI 1) y v = (0, v) := by simp only [B_V_store, vN_1, mN_1, nO_1, pO_1, ixb_1, vpb_1, om_1, ixb_0, vpb_0, c0, c0', eq_self, one0, if_true, if_false, not_true_eq_false, not_false_eq_true, true_implies, false_implies, implies_true, and_true, true_and]
      have eM : B_M_store fz (nI 1) y m = (0, m) := by simp only [B_M_store, vN_1, mN_1, nO_1, pO_1, ixb_1, vpb_1, om_1, ixb_0, vpb_0, c0, c0', eq_self, one0, if_true, if_false, not_true_eq_false, not_false_eq_true, true_implies, false_implies, implies_true, and_true, true_and]
      refine ⟨by simp only [P_V_store, pT_isNode, pT_nodeOf, pT_peerOf, vN_1, mN_1, nO_1, pO_1, ixb_1, vpb_1, om_1, ixb_0, vpb_0, c0, c0', eq_self, one0, if_true, if_false, not_true_eq_false, not_false_eq_true, true_implies, false_implies, implies_true, and_true, true_and], by simp only [P_M_store, pT_isNodeM, vN_1, mN_1, nO_1, pO_1, ixb_1, vpb_1, om_1, ixb_0, vpb_0, c0, c0', eq_self, one0, if_true, if_false, not_true_eq_false, not_false_eq_true, true_implies, false_implies, implies_true, and_true, true_and], ?_⟩
      rw [eV, eM]
      exact RS.same hJ0 _
    · have c0' : 0 ≤ y := Int32.not_lt.mp c0
      obtain ⟨kk, hkk, rfl⟩ := nI_of c0
      have hroom : ∀ w, w ∈ wt 1 → (q 1).length < 25 := by
        intro w hw
        have h1 := iN0.both
        have h2 := iN1.both
        have h3 := List.length_pos_of_mem hw
        exact qroom iQ1 (by omega)
      have hP : ∀ w, 1 ≤ w → w ≤ n → wP 1 m w = true → P_M_store_90 fz (nI 1) (nI w) (u2 m 33 w 0) := by
        intro w h1 h2 hw
        have hwt := ((wP_1 hR iT iW h1 h2).mp hw).2
        obtain ⟨-, f1, f2, f3, f4⟩ := hT.2.2.2.2 w h1 h2
        have hb := (iT.2 w h1 h2).2.1
        have hxw : ix (nI w) = w := nI_clamp (by omega)
        have hvw : vp_in (nI w) 301 := vp_in_nI (by omega) (by decide)
        have f2' : (u2 m 33 w 0) 29 w = nI (blk w) := f2
        have hv : vp_in (nI (32 * 1 + blk w)) 64 := vp_in_nI (by omega) (by decide)
        have hx : ix (nI (32 * 1 + blk w)) = 32 * 1 + blk w := nI_clamp (by omega)
        have hs := cv_msend fz (b := 1) (by decide) 2 (nI w) 0 (u2 (u2 m 33 w 0) 34 (32 * 1 + blk w) ((u2 m 33 w 0) 30 w)) (hroom w hwt) hA1.1
        simp only [P_M_store_90, P_M_store_114, hxw, hvw, f2', x32, hx, hv, hs.1, eq_self, one0, if_true, if_false, not_true_eq_false, not_false_eq_true, true_implies, false_implies, implies_true, and_true, true_and]
      have cm := cv_store fz hz (b := 1) (by decide) hn hkk m hT.2.1 hP
      rw [hfl] at cm
      have k2' : v 19 1 = nI (wt 1).length := k2
      have k2'' : v (11 + 8) 1 = nI (wt 1).length := k2
      rcases Nat.lt_or_ge kk (wt 1).length with hlt | hge
      · have glt : nI kk < nI (wt 1).length := nI_lt hlt (by omega)
        have gge : ¬ nI (wt 1).length ≤ nI kk := nI_ge hlt (by omega)
        obtain ⟨w, hw⟩ : ∃ w, (wt 1)[kk]? = some w := ⟨_, List.getElem?_eq_getElem hlt⟩
        cases hwt : wt 1 with
        | nil => rw [hwt] at hlt; cases hlt
        | cons w0 Rr =>
        have hw0 : (wt 1)[0]? = some w0 := by rw [hwt]; rfl
        have m0 : w0 ∈ wt 1 := List.mem_of_getElem? hw0
        have mw : w ∈ wt 1 := List.mem_of_getElem? hw
        obtain ⟨⟨a1, a2⟩, a3, a4⟩ := hin w mw
        obtain ⟨⟨z1, z2⟩, z3, z4⟩ := hin w0 m0
        obtain ⟨⟨e1, e2, e3, e4, e5⟩, f1, f2, f3, f4⟩ := hT.2.2.2.2 w a1 a2
        obtain ⟨⟨y1, y2, y3, y4, y5⟩, x1, x2, x3, x4⟩ := hT.2.2.2.2 w0 z1 z2
        obtain ⟨o1, o2, o3, o4⟩ := iT.2 w a1 a2
        have o3' := (iT.2 w0 z1 z2).2.2.1
        have hkx : ix (nI kk) = kk := nI_clamp hkk
        have hkv : vp_in (nI kk) 8 := vp_in_nI (by omega) (by decide)
        have h0x : ix (0 : Int32) = 0 := by decide
        have h0v : vp_in (0 : Int32) 8 := by rw [li0]; exact vp_in_nI (by decide) (by decide)
        have hxw : ix (nI w) = w := nI_clamp (by omega)
        have hvw : vp_in (nI w) 301 := vp_in_nI (by omega) (by decide)
        have hxw0 : ix (nI w0) = w0 := nI_clamp (by omega)
        have hvw0 : vp_in (nI w0) 301 := vp_in_nI (by omega) (by decide)
        have r9 : v (11 + 9) kk = nI w := k3 kk w hw
        have r90 : v (11 + 9) 0 = nI w0 := k3 0 w0 hw0
        have g00 : ¬ (0 : Int32) < 0 := by decide
        have gl0 : ¬ nI (wt 1).length ≤ 0 := nI_nle (by omega) (by omega)
        have nA : B_L_numberAt fz 11 (nI kk) v = nI w := by simp only [B_L_numberAt, c0, k2'', gge, hkx, r9, eq_self, one0, if_true, if_false, not_true_eq_false, not_false_eq_true, true_implies, false_implies, implies_true, and_true, true_and]
        have nB : B_L_numberAt fz 11 0 v = nI w0 := by simp only [B_L_numberAt, g00, k2'', gl0, h0x, r90, eq_self, one0, if_true, if_false, not_true_eq_false, not_false_eq_true, true_implies, false_implies, implies_true, and_true, true_and]
        have pA : P_L_numberAt fz 11 (nI kk) v := by simp only [P_L_numberAt, c0, k2'', gge, hkv, eq_self, one0, if_true, if_false, not_true_eq_false, not_false_eq_true, true_implies, false_implies, implies_true, and_true, true_and]
        have pB : P_L_numberAt fz 11 0 v := by simp only [P_L_numberAt, g00, k2'', gl0, h0v, eq_self, one0, if_true, if_false, not_true_eq_false, not_false_eq_true, true_implies, false_implies, implies_true, and_true, true_and]
        have hE : ∀ x, x ∈ wt 1 → (m 31 x = m 31 w0 ↔ ep x = ep w0) ∧ ep w0 ≤ ep x := by
          intro x hx
          obtain ⟨⟨b1, b2⟩, b3, b4⟩ := hin x hx
          obtain ⟨-, -, -, t3, -⟩ := hT.2.2.2.2 x b1 b2
          have t5 := (iT.2 x b1 b2).2.2.1
          refine ⟨by rw [t3, x3]; exact nI_eq (by omega) (by omega), ?_⟩
          rw [hwt] at hx
          rcases List.mem_cons.mp hx with rfl | hx
          · exact Nat.le_refl _
          · rw [hwt] at hasc
            exact iE.1 w0 x z1 ((List.pairwise_cons.mp hasc).1 x hx) b2 (by rw [z3, b3])
        have hpw : (wt 1).Pairwise (fun a b => ep a ≤ ep b) := List.Pairwise.imp_of_mem (fun {a b} ha hb hab => iE.1 a b (hin a ha).1.1 hab (hin b hb).1.2 (by rw [(hin a ha).2.1, (hin b hb).2.1])) hasc
        have hst : sto0 (m 31) kk (wt 1) = if ep w = ep w0 then some w else none := by
          have h9 := hE
          have h8 := hpw
          have h7 := hw
          rw [hwt] at h9 h8 h7 ⊢
          rw [at_head h9 h8, h7]
        rw [hst] at cm
        by_cases ce : ep w = ep w0
        · rw [if_pos ce] at cm
          have eq25 : nI (ep w) = nI (ep w0) := congrArg nI ce
          obtain ⟨p1, r1⟩ := r_wrem_1 fz hz hR hw (x := nI kk) rfl
          have r2 := r_disk_1 (r_wx r1 a1 false (x := 0) rfl) o2 (m 30 w)
          have hlr := hroom w mw
          obtain ⟨p2, p3, r3⟩ := r_send_1 fz r2 hlr (2, w, 0) (k := 2) (s := nI w) (x := 0) (k2 := 2) (s2 := nI w) (x2 := 0) li2 rfl rfl li2 rfl rfl
          have t23 : (B_L_remove fz 11 (nI kk) v) 23 w = nI (blk w) ∧ (B_L_remove fz 11 (nI kk) v) 24 w = m 30 w := by
            obtain ⟨kL, kT, kX, kS0, kM0, kD0, kR0, kA0, kW0, kG0, kU0, kE0, kS1, kM1, kD1, kR1, kA1, kW1, kG1, kU1, kE1⟩ := r1
            obtain ⟨⟨q1, q2, q3, q4, q5⟩, -⟩ := kT.2.2.2.2 w a1 a2
            exact ⟨q2, q3⟩
          have hvb : vp_in (nI (blk w)) 32 := vp_in_nI o2 (by decide)
          have hxb : ix (nI (blk w)) = blk w := nI_clamp (by omega)
          have f2' : (u2 m 33 w 0) 29 w = nI (blk w) := f2
          have f30 : (u2 m 33 w 0) 30 w = m 30 w := rfl
          have hx64 : ix (nI (32 * 1 + blk w)) = 32 * 1 + blk w := nI_clamp (by omega)
          have eV : B_V_store fz (nI 1) (nI kk) v = (nI w, B_O_send fz 11 2 (nI w) 0 (u2 (B_L_remove fz 11 (nI kk) v) 12 (blk w) (m 30 w))) := by
            simp only [B_V_store, B_V_store_79, B_V_store_104, vN_1, mN_1, nO_1, pO_1, ixb_1, vpb_1, om_1, ixb_0, vpb_0, c0, k2', k2'', glt, nA, nB, hxw, hxw0, e4, y4, eq25, t23.1, t23.2, hxb, eq_self, one0, if_true, if_false, not_true_eq_false, not_false_eq_true, true_implies, false_implies, implies_true, and_true, true_and]
          have eM : B_M_store fz (nI 1) (nI kk) m = (nI w, B_M_send fz (nI 1) 2 (nI w) 0 (u2 (u2 m 33 w 0) 34 (32 * 1 + blk w) (m 30 w))) := by
            simp only [B_M_store, vN_1, mN_1, nO_1, pO_1, ixb_1, vpb_1, om_1, ixb_0, vpb_0, c0', cm, B_M_store_90, B_M_store_114, hxw, f2', f30, x32, hx64, eq_self, one0, if_true, if_false, not_true_eq_false, not_false_eq_true, true_implies, false_implies, implies_true, and_true, true_and]
          refine ⟨by simp only [P_V_store, P_V_store_79, P_V_store_104, pT_isNode, pT_nodeOf, vN_1, mN_1, nO_1, pO_1, ixb_1, vpb_1, om_1, ixb_0, vpb_0, c0, k2', k2'', glt, nA, nB, pA, pB, hxw, hxw0, hvw, hvw0, e4, y4, eq25, p1, t23.1, t23.2, hvb, hxb, p2, eq_self, one0, if_true, if_false, not_true_eq_false, not_false_eq_true, true_implies, false_implies, implies_true, and_true, true_and], by simp only [P_M_store, pT_isNodeM, vN_1, mN_1, nO_1, pO_1, ixb_1, vpb_1, om_1, ixb_0, vpb_0, c0', cm, eq_self, one0, if_true, if_false, not_true_eq_false, not_false_eq_true, true_implies, false_implies, implies_true, and_true, true_and], ?_⟩
          rw [eV, eM]
          have hJm := hI.mono (show t ≤ t + 1 by omega)
          obtain ⟨jT, jG, jN0, jN1, jQ0, jQ1, jR0, jR1, jW, jC, jK, jE⟩ := hJm
          have hb2 : bck (q 1 ++ [(2, w, 0)]) = bck (q 1) ++ [(0, w)] := bck_app _ _
          have hf2 : fwd (q 1 ++ [(2, w, 0)]) = fwd (q 1) := (fwd_app _ _).trans (List.append_nil _)
          have hd2 : dat (q 1 ++ [(2, w, 0)]) = dat (q 1) := (dat_app _ _).trans (List.append_nil _)
          have nO : IN n own blk ft 0 (sc 12 0) (mp 0) (un 0) (PL (q 1 ++ [(2, w, 0)]) ((wt 1).eraseIdx kk) (q 0)) := by
            have hp := jN0
            unfold PL at hp ⊢
            rw [hb2]
            exact hp.perm (store_perm hw) (store_order hw hp.2.2.2.2.1)
          have nB' : IN n own blk ft 1 (sc 12 1) (mp 1) (un 1) (PL (q 0) (wt 0) (q 1 ++ [(2, w, 0)])) := by
            have hp := jN1
            unfold PL at hp ⊢
            rw [hf2]
            exact hp
          have nQ : IQ (q 1 ++ [(2, w, 0)]) (sc 12 0) (sc 12 1) := by
            exact jQ1.snoc (show 1 ≤ 2 by decide) (show 2 < 5 by decide)
          have nRo : IR ((wt 1).eraseIdx kk) (q 0) := List.Pairwise.sublist ((List.eraseIdx_sublist _ _).append (List.Sublist.refl _)) jR0
          have nRb : IR (wt 0) (q 1 ++ [(2, w, 0)]) := by
            unfold IR
            rw [hd2]
            exact jR1
          have nW : IW n own (wt 0) ((wt 1).eraseIdx kk) (ug wx w false) := by
            intro x g1 g2
            unfold ug
            by_cases ex : x = w
            · subst ex
              rw [if_pos rfl]
              refine ⟨fun r => (by cases r), fun r => ?_⟩
              rcases r.2 with r | r
              · omega
              · exact absurd rfl ((mem_eraseN hasc hw).mp r.2).2
            · rw [if_neg ex, jW x g1 g2, mem_eraseN hasc hw]
              simp only [ex, ne_eq, not_false_eq_true, and_true]
          have nK : IK lk (q 0) (q 1 ++ [(2, w, 0)]) (wt 0) ((wt 1).eraseIdx kk) (sc 12 0) (sc 12 1) := by
            intro hl
            have := (jK hl).2.2.2.1
            rw [this] at mw
            cases mw
          exact ⟨rfl, n, own, blk, ep, ft, sc, lk, gr, mp, un, ug q 1 (q 1 ++ [(2, w, 0)]), ug wt 1 ((wt 1).eraseIdx kk), ug wx w false, lg, us, pv, r3, jT, jG, nO, nB', jQ0, nQ, nRo, nRb, nW, jC, nK, jE⟩
        · rw [if_neg ce] at cm
          have ne25 : ¬ nI (ep w) = nI (ep w0) := fun r => ce ((nI_eq (by omega) (by omega)).mp r)
          have eV : B_V_store fz (nI 1) (nI kk) v = (0, v) := by simp only [B_V_store, vN_1, mN_1, nO_1, pO_1, ixb_1, vpb_1, om_1, ixb_0, vpb_0, c0, c0', k2', k2'', glt, nA, nB, hxw, hxw0, e4, y4, ne25, cm, eq_self, one0, if_true, if_false, not_true_eq_false, not_false_eq_true, true_implies, false_implies, implies_true, and_true, true_and]
          have eM : B_M_store fz (nI 1) (nI kk) m = (0, m) := by simp only [B_M_store, vN_1, mN_1, nO_1, pO_1, ixb_1, vpb_1, om_1, ixb_0, vpb_0, c0, c0', k2', k2'', glt, nA, nB, hxw, hxw0, e4, y4, ne25, cm, eq_self, one0, if_true, if_false, not_true_eq_false, not_false_eq_true, true_implies, false_implies, implies_true, and_true, true_and]
          refine ⟨by simp only [P_V_store, pT_isNode, pT_nodeOf, pT_peerOf, vN_1, mN_1, nO_1, pO_1, ixb_1, vpb_1, om_1, ixb_0, vpb_0, c0, c0', k2', k2'', glt, nA, nB, hxw, hxw0, e4, y4, ne25, cm, pA, pB, hvw, hvw0, eq_self, one0, if_true, if_false, not_true_eq_false, not_false_eq_true, true_implies, false_implies, implies_true, and_true, true_and], by simp only [P_M_store, pT_isNodeM, vN_1, mN_1, nO_1, pO_1, ixb_1, vpb_1, om_1, ixb_0, vpb_0, c0, c0', k2', k2'', glt, nA, nB, hxw, hxw0, e4, y4, ne25, cm, eq_self, one0, if_true, if_false, not_true_eq_false, not_false_eq_true, true_implies, false_implies, implies_true, and_true, true_and], ?_⟩
          rw [eV, eM]
          exact RS.same hJ0 _
      · have glt : ¬ nI kk < nI (wt 1).length := nI_nlt hge (by omega)
        have hno : (wt 1)[kk]? = none := List.getElem?_eq_none hge
        have hst : sto0 (m 31) kk (wt 1) = none := by
          cases hwt : wt 1 with
          | nil => rfl
          | cons w0 Rr =>
            have m0 : w0 ∈ wt 1 := by rw [hwt]; exact List.mem_cons_self
            obtain ⟨⟨z1, z2⟩, z3, z4⟩ := hin w0 m0
            obtain ⟨-, x1, x2, x3, x4⟩ := hT.2.2.2.2 w0 z1 z2
            have o3' := (iT.2 w0 z1 z2).2.2.1
            have hE : ∀ x, x ∈ wt 1 → (m 31 x = m 31 w0 ↔ ep x = ep w0) ∧ ep w0 ≤ ep x := by
              intro x hx
              obtain ⟨⟨b1, b2⟩, b3, b4⟩ := hin x hx
              obtain ⟨-, -, -, t3, -⟩ := hT.2.2.2.2 x b1 b2
              have t5 := (iT.2 x b1 b2).2.2.1
              refine ⟨by rw [t3, x3]; exact nI_eq (by omega) (by omega), ?_⟩
              rw [hwt] at hx
              rcases List.mem_cons.mp hx with rfl | hx
              · exact Nat.le_refl _
              · rw [hwt] at hasc
                exact iE.1 w0 x z1 ((List.pairwise_cons.mp hasc).1 x hx) b2 (by rw [z3, b3])
            have hpw : (wt 1).Pairwise (fun a b => ep a ≤ ep b) := List.Pairwise.imp_of_mem (fun {a b} ha hb hab => iE.1 a b (hin a ha).1.1 hab (hin b hb).1.2 (by rw [(hin a ha).2.1, (hin b hb).2.1])) hasc
            rw [hwt] at hE hpw hno
            rw [at_head hE hpw, hno]
        rw [hst] at cm
        have eV : B_V_store fz (nI 1) (nI kk) v = (0, v) := by simp only [B_V_store, vN_1, mN_1, nO_1, pO_1, ixb_1, vpb_1, om_1, ixb_0, vpb_0, c0, c0', k2', k2'', glt, cm, eq_self, one0, if_true, if_false, not_true_eq_false, not_false_eq_true, true_implies, false_implies, implies_true, and_true, true_and]
        have eM : B_M_store fz (nI 1) (nI kk) m = (0, m) := by simp only [B_M_store, vN_1, mN_1, nO_1, pO_1, ixb_1, vpb_1, om_1, ixb_0, vpb_0, c0, c0', k2', k2'', glt, cm, eq_self, one0, if_true, if_false, not_true_eq_false, not_false_eq_true, true_implies, false_implies, implies_true, and_true, true_and]
        refine ⟨by simp only [P_V_store, pT_isNode, pT_nodeOf, pT_peerOf, vN_1, mN_1, nO_1, pO_1, ixb_1, vpb_1, om_1, ixb_0, vpb_0, c0, c0', k2', k2'', glt, cm, eq_self, one0, if_true, if_false, not_true_eq_false, not_false_eq_true, true_implies, false_implies, implies_true, and_true, true_and], by simp only [P_M_store, pT_isNodeM, vN_1, mN_1, nO_1, pO_1, ixb_1, vpb_1, om_1, ixb_0, vpb_0, c0, c0', k2', k2'', glt, cm, eq_self, one0, if_true, if_false, not_true_eq_false, not_false_eq_true, true_implies, false_implies, implies_true, and_true, true_and], ?_⟩
        rw [eV, eM]
        exact RS.same hJ0 _
