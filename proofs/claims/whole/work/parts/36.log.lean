theorem fnd_the {p : Nat → Bool} {a k e : Nat} (h1 : a ≤ e) (h2 : e < a + k) (hp : p e = true) (hu : ∀ i, a ≤ i → i < a + k → p i = true → i = e) : fnd p a k = some e := by
  cases hf : fnd p a k with
  | none =>
    rw [fnd_none k a hf e h1 h2] at hp
    cases hp
  | some i =>
    obtain ⟨g1, g2, g3, -⟩ := fnd_some k a i hf
    rw [hu i g1 g2 g3]
theorem ltr_at {b n : Nat} {l : List Nat} {us : Nat → Nat} {x : Int32} {r : Nat → Int32} {m : HH} (hn : n ≤ 300) (hG : GG b n l us x r (m 36) (m 37)) {k e : Nat} (hk : l[k]? = some e) : ltr b m e = k := by
  obtain ⟨g1, g2, g3, g4, g5, g6⟩ := hG
  have hkl : k < l.length := (List.getElem?_eq_some_iff.mp hk).1
  have hke : l[k] = e := (List.getElem?_eq_some_iff.mp hk).2
  have he := g5 e (List.mem_of_getElem? hk)
  have hpw := List.pairwise_iff_getElem.mp g6
  have nd : l.Nodup := g6.imp (fun {a b} (r : us b < us a) (h : a = b) => by rw [h] at r; exact Nat.lt_irrefl _ r)
  unfold ltr
  have hlen : (l.take k).length = k := by rw [List.length_take]; omega
  rw [cn_len (l := l.take k) (List.Sublist.nodup (List.take_sublist k l) nd) ?_, hlen]
  intro y
  rw [List.mem_take_iff_getElem]
  constructor
  · rintro ⟨i, hi, rfl⟩
    have hil : i < l.length := by omega
    have hm : l[i] ∈ l := List.getElem_mem hil
    have h8 := g5 _ hm
    refine ⟨⟨Nat.zero_le _, by omega⟩, ?_⟩
    have h3 : us e < us l[i] := by
      have := hpw i k hil hkl (by omega)
      rw [hke] at this
      exact this
    rw [(g4 _ h8.1).1, (g4 _ h8.1).2, (g4 e he.1).2]
    have h4 : ¬ nI (us l[i]) ≤ nI (us e) := nI_ge h3 (by omega)
    simp [hm, h4, bi]
  · rintro ⟨⟨_, h8⟩, hp⟩
    rw [Bool.and_eq_true, (g4 y (by omega)).1, (g4 y (by omega)).2, (g4 e he.1).2] at hp
    have hym : y ∈ l := by
      by_cases c : y ∈ l
      · exact c
      · simp [c, bi] at hp
    have hy8 := g5 y hym
    have hlt : us e < us y := by
      refine Nat.lt_of_not_le (fun r => ?_)
      have := nI_le r (show us e < 2 ^ 31 by omega)
      simp [this] at hp
    obtain ⟨i, hi, hiy⟩ := List.getElem_of_mem hym
    refine ⟨i, ?_, hiy⟩
    have : i < k := by
      refine Nat.lt_of_not_le (fun r => ?_)
      rcases Nat.lt_or_ge k i with c | c
      · have h := hpw k i hkl hi c
        rw [hke, hiy] at h
        omega
      · have : i = k := by omega
        subst this
        rw [hke] at hiy
        rw [hiy] at hlt
        exact Nat.lt_irrefl _ hlt
    omega
theorem S_log (fz : Nat) (hz : 400 ≤ fz) {t : Nat} {v m : HH} (hJ : J2 t v m) (x : Int32) (y : Int32) : P_V_log fz x y v ∧ P_M_log fz x y m ∧ B_V_log fz x y v = B_M_log fz x y m := by
  rcases ndc x with ⟨h0, h1⟩ | rfl | rfl
  · exact ⟨by simp only [P_V_log, pT_isNode, vN_n fz v h0 h1, eq_self, one0, if_true, if_false, not_true_eq_false, not_false_eq_true, true_implies, false_implies, implies_true, and_true, true_and], by simp only [P_M_log, pT_isNodeM, mN_n fz m h0 h1, eq_self, one0, if_true, if_false, not_true_eq_false, not_false_eq_true, true_implies, false_implies, implies_true, and_true, true_and], by simp only [B_V_log, B_M_log, vN_n fz v h0 h1, mN_n fz m h0 h1, eq_self, one0, if_true, if_false, not_true_eq_false, not_false_eq_true, true_implies, false_implies, implies_true, and_true, true_and]⟩
  · obtain ⟨n, own, blk, ep, ft, sc, lk, gr, mp, un, q, wt, wx, lg, us, pv, hR, hI⟩ := hJ
    have hR' := hR
    obtain ⟨hL, hT, hX, hS0, hM0, hD0, hR0, hA0, hW0, hG0, hU0, hE0, hS1, hM1, hD1, hR1, hA1, hW1, hG1, hU1, hE1⟩ := hR'
    have hI' := hI
    obtain ⟨iT, iG, iN0, iN1, iQ0, iQ1, iR0, iR1, iW, iC, iK, iE⟩ := hI'
    obtain ⟨s0a, s1a, s2a, s3a, s4a, s5a, s6a, s7a, s8a, s9a, s10a, s11a, s12a, s13a, s14a, s15a, s16a⟩ := hS0
    obtain ⟨s0b, s1b, s2b, s3b, s4b, s5b, s6b, s7b, s8b, s9b, s10b, s11b, s12b, s13b, s14b, s15b, s16b⟩ := hS1
    obtain ⟨l1, l2, l3, l4⟩ := hL
    have hn := iT.1
    have cl := cv_log fz hz (b := 0) (by decide) y m
    have hlt := @ltr_at 0 n (lg 0) (us 0) _ _ m hn hG0
    obtain ⟨g1, g2, g3, g4, g5, g6⟩ := hG0
    have g2' : v (1 + 2) 1 = nI (lg 0).length := g2
    have pM : P_M_log fz (nI 0) y m := by simp only [P_M_log, pT_isNodeM, vN_0, mN_0, nO_0, pO_0, ixb_0, vpb_0, om_0, ixb_1, vpb_1, cl.1, eq_self, one0, if_true, if_false, not_true_eq_false, not_false_eq_true, true_implies, false_implies, implies_true, and_true, true_and]
    have eM : B_M_log fz (nI 0) y m = oi (fnd (fun e => !decide (m 36 (8 * 0 + e) = 0) && decide (nI (ltr 0 m e) = y)) 0 8) := by simp only [B_M_log, vN_0, mN_0, nO_0, pO_0, ixb_0, vpb_0, om_0, ixb_1, vpb_1, cl.2, eq_self, one0, if_true, if_false, not_true_eq_false, not_false_eq_true, true_implies, false_implies, implies_true, and_true, true_and]
    have hpe : ∀ e, e < 8 → (!decide (m 36 (8 * 0 + e) = 0) && decide (nI (ltr 0 m e) = y)) = true → ∃ k, (lg 0)[k]? = some e ∧ y = nI k := by
      intro e he hp
      rw [Bool.and_eq_true, (g4 e he).1] at hp
      have hm : e ∈ lg 0 := by
        by_cases c : e ∈ lg 0
        · exact c
        · simp [c, bi] at hp
      obtain ⟨k, hk1, hk2⟩ := List.getElem_of_mem hm
      have hk : (lg 0)[k]? = some e := by rw [List.getElem?_eq_getElem hk1, hk2]
      have h2 := of_decide_eq_true hp.2
      rw [hlt hk] at h2
      exact ⟨k, hk, h2.symm⟩
    by_cases c0 : y < 0
    · have hno : fnd (fun e => !decide (m 36 (8 * 0 + e) = 0) && decide (nI (ltr 0 m e) = y)) 0 8 = none := by
        cases hf : fnd (fun e => !decide (m 36 (8 * 0 + e) = 0) && decide (nI (ltr 0 m e) = y)) 0 8 with
        | none => rfl
        | some e =>
          obtain ⟨-, h2, h3, -⟩ := fnd_some 8 0 e hf
          obtain ⟨k, hk, rfl⟩ := hpe e (by omega) h3
          have := (List.getElem?_eq_some_iff.mp hk).1
          exact absurd c0 (nI_pos (by omega))
      refine ⟨by simp only [P_V_log, P_E_extentAt, pT_isNode, pT_nodeOf, vN_0, mN_0, nO_0, pO_0, ixb_0, vpb_0, om_0, ixb_1, vpb_1, c0, eq_self, one0, if_true, if_false, not_true_eq_false, not_false_eq_true, true_implies, false_implies, implies_true, and_true, true_and], pM, ?_⟩
      rw [eM, hno]
      simp only [B_V_log, B_E_extentAt, vN_0, mN_0, nO_0, pO_0, ixb_0, vpb_0, om_0, ixb_1, vpb_1, c0, oi, eq_self, one0, if_true, if_false, not_true_eq_false, not_false_eq_true, true_implies, false_implies, implies_true, and_true, true_and]
    · obtain ⟨k, hk, rfl⟩ := nI_of c0
      rcases Nat.lt_or_ge k (lg 0).length with hlk | hge
      · have gk : ¬ nI (lg 0).length ≤ nI k := nI_ge hlk (by omega)
        have hxk : ix (nI k) = k := nI_clamp hk
        have hvk : vp_in (nI k) 3 := vp_in_nI (by omega) (by decide)
        have hke : (lg 0)[k]? = some (lg 0)[k] := List.getElem?_eq_getElem hlk
        have hm := List.getElem_mem hlk
        have h8 := g5 _ hm
        have r3 : v (1 + 3) k = nI (lg 0)[k] := g3 k _ hke
        have hyes : fnd (fun e => !decide (m 36 (8 * 0 + e) = 0) && decide (nI (ltr 0 m e) = nI k)) 0 8 = some (lg 0)[k] := by
          refine fnd_the (Nat.zero_le _) (by omega) ?_ (fun e _ h2 h3 => ?_)
          · rw [(g4 _ h8.1).1, hlt hke]
            simp [hm, bi]
          · obtain ⟨k', hk', he⟩ := hpe e (by omega) h3
            have hl' := (List.getElem?_eq_some_iff.mp hk').1
            have : k = k' := (nI_eq hk (by omega)).mp he
            subst this
            rw [hke] at hk'
            exact (Option.some.inj hk').symm
        refine ⟨by simp only [P_V_log, P_E_extentAt, pT_isNode, pT_nodeOf, vN_0, mN_0, nO_0, pO_0, ixb_0, vpb_0, om_0, ixb_1, vpb_1, c0, g2', gk, hvk, eq_self, one0, if_true, if_false, not_true_eq_false, not_false_eq_true, true_implies, false_implies, implies_true, and_true, true_and], pM, ?_⟩
        rw [eM, hyes]
        simp only [B_V_log, B_E_extentAt, vN_0, mN_0, nO_0, pO_0, ixb_0, vpb_0, om_0, ixb_1, vpb_1, c0, g2', gk, hxk, r3, oi, eq_self, one0, if_true, if_false, not_true_eq_false, not_false_eq_true, true_implies, false_implies, implies_true, and_true, true_and]
      · have gk : nI (lg 0).length ≤ nI k := nI_le hge hk
        have hno : fnd (fun e => !decide (m 36 (8 * 0 + e) = 0) && decide (nI (ltr 0 m e) = nI k)) 0 8 = none := by
          cases hf : fnd (fun e => !decide (m 36 (8 * 0 + e) = 0) && decide (nI (ltr 0 m e) = nI k)) 0 8 with
          | none => rfl
          | some e =>
            obtain ⟨-, h2, h3, -⟩ := fnd_some 8 0 e hf
            obtain ⟨k', hk', he⟩ := hpe e (by omega) h3
            have hl' := (List.getElem?_eq_some_iff.mp hk').1
            have : k = k' := (nI_eq hk (by omega)).mp he
            omega
        refine ⟨by simp only [P_V_log, P_E_extentAt, pT_isNode, pT_nodeOf, vN_0, mN_0, nO_0, pO_0, ixb_0, vpb_0, om_0, ixb_1, vpb_1, c0, g2', gk, eq_self, one0, if_true, if_false, not_true_eq_false, not_false_eq_true, true_implies, false_implies, implies_true, and_true, true_and], pM, ?_⟩
        rw [eM, hno]
        simp only [B_V_log, B_E_extentAt, vN_0, mN_0, nO_0, pO_0, ixb_0, vpb_0, om_0, ixb_1, vpb_1, c0, g2', gk, oi, eq_self, one0, if_true, if_false, not_true_eq_false, not_false_eq_true, true_implies, false_implies, implies_true, and_true, true_and]
  · obtain ⟨n, own, blk, ep, ft, sc, lk, gr, mp, un, q, wt, wx, lg, us, pv, hR, hI⟩ := hJ
    have hR' := hR
    obtain ⟨hL, hT, hX, hS0, hM0, hD0, hR0, hA0, hW0, hG0, hU0, hE0, hS1, hM1, hD1, hR1, hA1, hW1, hG1, hU1, hE1⟩ := hR'
    have hI' := hI
    obtain ⟨iT, iG, iN0, iN1, iQ0, iQ1, iR0, iR1, iW, iC, iK, iE⟩ := hI'
    obtain ⟨s0a, s1a, s2a, s3a, s4a, s5a, s6a, s7a, s8a, s9a, s10a, s11a, s12a, s13a, s14a, s15a, s16a⟩ := hS0
    obtain ⟨s0b, s1b, s2b, s3b, s4b, s5b, s6b, s7b, s8b, s9b, s10b, s11b, s12b, s13b, s14b, s15b, s16b⟩ := hS1
    obtain ⟨l1, l2, l3, l4⟩ := hL
    have hn := iT.1
    have cl := cv_log fz hz (b := 1) (by decide) y m
    have hlt := @ltr_at 1 n (lg 1) (us 1) _ _ m hn hG1
    obtain ⟨g1, g2, g3, g4, g5, g6⟩ := hG1
    have g2' : v (11 + 2) 1 = nI (lg 1).length := g2
    have pM : P_M_log fz (nI 1) y m := by simp only [P_M_log, pT_isNodeM, vN_1, mN_1, nO_1, pO_1, ixb_1, vpb_1, om_1, ixb_0, vpb_0, cl.1, eq_self, one0, if_true, if_false, not_true_eq_false, not_false_eq_true, true_implies, false_implies, implies_true, and_true, true_and]
    have eM : B_M_log fz (nI 1) y m = oi (fnd (fun e => !decide (m 36 (8 * 1 + e) = 0) && decide (nI (ltr 1 m e) = y)) 0 8) := by simp only [B_M_log, vN_1, mN_1, nO_1, pO_1, ixb_1, vpb_1, om_1, ixb_0, vpb_0, cl.2, eq_self, one0, if_true, if_false, not_true_eq_false, not_false_eq_true, true_implies, false_implies, implies_true, and_true, true_and]
    have hpe : ∀ e, e < 8 → (!decide (m 36 (8 * 1 + e) = 0) && decide (nI (ltr 1 m e) = y)) = true → ∃ k, (lg 1)[k]? = some e ∧ y = nI k := by
      intro e he hp
      rw [Bool.and_eq_true, (g4 e he).1] at hp
      have hm : e ∈ lg 1 := by
        by_cases c : e ∈ lg 1
        · exact c
        · simp [c, bi] at hp
      obtain ⟨k, hk1, hk2⟩ := List.getElem_of_mem hm
      have hk : (lg 1)[k]? = some e := by rw [List.getElem?_eq_getElem hk1, hk2]
      have h2 := of_decide_eq_true hp.2
      rw [hlt hk] at h2
      exact ⟨k, hk, h2.symm⟩
    by_cases c0 : y < 0
    · have hno : fnd (fun e => !decide (m 36 (8 * 1 + e) = 0) && decide (nI (ltr 1 m e) = y)) 0 8 = none := by
        cases hf : fnd (fun e => !decide (m 36 (8 * 1 + e) = 0) && decide (nI (ltr 1 m e) = y)) 0 8 with
        | none => rfl
        | some e =>
          obtain ⟨-, h2, h3, -⟩ := fnd_some 8 0 e hf
          obtain ⟨k, hk, rfl⟩ := hpe e (by omega) h3
          have := (List.getElem?_eq_some_iff.mp hk).1
          exact absurd c0 (nI_pos (by omega))
      refine ⟨by simp only [P_V_log, P_E_extentAt, pT_isNode, pT_nodeOf, vN_1, mN_1, nO_1, pO_1, ixb_1, vpb_1, om_1, ixb_0, vpb_0, c0, eq_self, one0, if_true, if_false, not_true_eq_false, not_false_eq_true, true_implies, false_implies, implies_true, and_true, true_and], pM, ?_⟩
      rw [eM, hno]
      simp only [B_V_log, B_E_extentAt, vN_1, mN_1, nO_1, pO_1, ixb_1, vpb_1, om_1, ixb_0, vpb_0, c0, oi, eq_self, one0, if_true, if_false, not_true_eq_false, not_false_eq_true, true_implies, false_implies, implies_true, and_true, true_and]
    · obtain ⟨k, hk, rfl⟩ := nI_of c0
      rcases Nat.lt_or_ge k (lg 1).length with hlk | hge
      · have gk : ¬ nI (lg 1).length ≤ nI k := nI_ge hlk (by omega)
        have hxk : ix (nI k) = k := nI_clamp hk
        have hvk : vp_in (nI k) 3 := vp_in_nI (by omega) (by decide)
        have hke : (lg 1)[k]? = some (lg 1)[k] := List.getElem?_eq_getElem hlk
        have hm := List.getElem_mem hlk
        have h8 := g5 _ hm
        have r3 : v (11 + 3) k = nI (lg 1)[k] := g3 k _ hke
        have hyes : fnd (fun e => !decide (m 36 (8 * 1 + e) = 0) && decide (nI (ltr 1 m e) = nI k)) 0 8 = some (lg 1)[k] := by
          refine fnd_the (Nat.zero_le _) (by omega) ?_ (fun e _ h2 h3 => ?_)
          · rw [(g4 _ h8.1).1, hlt hke]
            simp [hm, bi]
          · obtain ⟨k', hk', he⟩ := hpe e (by omega) h3
            have hl' := (List.getElem?_eq_some_iff.mp hk').1
            have : k = k' := (nI_eq hk (by omega)).mp he
            subst this
            rw [hke] at hk'
            exact (Option.some.inj hk').symm
        refine ⟨by simp only [P_V_log, P_E_extentAt, pT_isNode, pT_nodeOf, vN_1, mN_1, nO_1, pO_1, ixb_1, vpb_1, om_1, ixb_0, vpb_0, c0, g2', gk, hvk, eq_self, one0, if_true, if_false, not_true_eq_false, not_false_eq_true, true_implies, false_implies, implies_true, and_true, true_and], pM, ?_⟩
        rw [eM, hyes]
        simp only [B_V_log, B_E_extentAt, vN_1, mN_1, nO_1, pO_1, ixb_1, vpb_1, om_1, ixb_0, vpb_0, c0, g2', gk, hxk, r3, oi, eq_self, one0, if_true, if_false, not_true_eq_false, not_false_eq_true, true_implies, false_implies, implies_true, and_true, true_and]
      · have gk : nI (lg 1).length ≤ nI k := nI_le hge hk
        have hno : fnd (fun e => !decide (m 36 (8 * 1 + e) = 0) && decide (nI (ltr 1 m e) = nI k)) 0 8 = none := by
          cases hf : fnd (fun e => !decide (m 36 (8 * 1 + e) = 0) && decide (nI (ltr 1 m e) = nI k)) 0 8 with
          | none => rfl
          | some e =>
            obtain ⟨-, h2, h3, -⟩ := fnd_some 8 0 e hf
            obtain ⟨k', hk', he⟩ := hpe e (by omega) h3
            have hl' := (List.getElem?_eq_some_iff.mp hk').1
            have : k = k' := (nI_eq hk (by omega)).mp he
            omega
        refine ⟨by simp only [P_V_log, P_E_extentAt, pT_isNode, pT_nodeOf, vN_1, mN_1, nO_1, pO_1, ixb_1, vpb_1, om_1, ixb_0, vpb_0, c0, g2', gk, eq_self, one0, if_true, if_false, not_true_eq_false, not_false_eq_true, true_implies, false_implies, implies_true, and_true, true_and], pM, ?_⟩
        rw [eM, hno]
        simp only [B_V_log, B_E_extentAt, vN_1, mN_1, nO_1, pO_1, ixb_1, vpb_1, om_1, ixb_0, vpb_0, c0, g2', gk, oi, eq_self, one0, if_true, if_false, not_true_eq_false, not_false_eq_true, true_implies, false_implies, implies_true, and_true, true_and]
