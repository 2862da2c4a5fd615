theorem cv_send (fz i : Nat) (k s x : Int32) (v : HH) {f c : Nat} (hf : f < 25) (hc : c < 25) (h3 : v (i + 4) 3 = nI f) (h4 : v (i + 4) 4 = nI c) : P_O_send fz i k s x v ∧ B_O_send fz i k s x v = u2 (u2 (u2 (u2 v (i + 5) ((f + c) % 25) k) (i + 6) ((f + c) % 25) s) (i + 7) ((f + c) % 25) x) (i + 4) 4 (nI (c + 1)) := by
  have g : v (i + 4) 4 < (25 : Int32) := by rw [h4, li25]; exact nI_lt hc (by omega)
  have e : (v (i + 4) 3 + v (i + 4) 4) - (v (i + 4) 3 + v (i + 4) 4) / (25 : Int32) * (25 : Int32) = nI ((f + c) % 25) := by
    rw [h3, h4, nI_add, li25]
    exact pk_rem (by omega) (by decide) (by decide)
  have hx : ix (nI ((f + c) % 25)) = (f + c) % 25 := nI_clamp (by omega)
  have hv : vp_in (nI ((f + c) % 25)) 25 := vp_in_nI (Nat.mod_lt _ (by decide)) (by decide)
  have e4 : (u2 (u2 (u2 v (i + 5) ((f + c) % 25) k) (i + 6) ((f + c) % 25) s) (i + 7) ((f + c) % 25) x) (i + 4) 4 = nI c := by
    rw [u2_i _ _ _ (by omega), u2_i _ _ _ (by omega), u2_i _ _ _ (by omega)]
    exact h4
  simp only [P_O_send, B_O_send, P_O_send_48, B_O_send_48, e, hx, hv, g, e4, nI_1, if_true, not_true_eq_false, true_implies, false_implies, and_true, true_and]
theorem cv_msend (fz : Nat) {b : Nat} (hb : b < 2) (k s x : Int32) (m : HH) {c : Nat} (hc : c < 25) (h5 : m 51 b = nI c) : P_M_send fz (nI b) k s x m ∧ B_M_send fz (nI b) k s x m = u2 (u2 (u2 (u2 m 48 (64 * b + c) k) 49 (64 * b + c) s) 50 (64 * b + c) x) 51 b (nI (c + 1)) := by
  have hxb : ix (nI b) = b := nI_clamp (by omega)
  have hvb : vp_in (nI b) 2 := vp_in_nI hb (by decide)
  have hx : ix (nI (64 * b + c)) = 64 * b + c := nI_clamp (by omega)
  have hv : vp_in (nI (64 * b + c)) 128 := vp_in_nI (by omega) (by decide)
  have e5 : (u2 (u2 (u2 m 48 (64 * b + c) k) 49 (64 * b + c) s) 50 (64 * b + c) x) 51 b = nI c := h5
  simp only [P_M_send, B_M_send, P_M_send_38, B_M_send_38, hxb, hvb, h5, x64, hx, hv, e5, nI_1, and_true, true_and, and_self]
theorem cv_drop (fz i : Nat) (v : HH) {f c : Nat} (hf : f < 25) (hc : c < 25) (h3 : v (i + 4) 3 = nI f) (h4 : v (i + 4) 4 = nI (c + 1)) : P_O_dropFirst fz i v ∧ B_O_dropFirst fz i v = u2 (u2 v (i + 4) 3 (nI ((f + 1) % 25))) (i + 4) 4 (nI c) := by
  have g : ¬ v (i + 4) 4 ≤ 0 := by rw [h4]; exact nI_nle (by omega) (by omega)
  have e : (v (i + 4) 3 + (1 : Int32)) - (v (i + 4) 3 + (1 : Int32)) / (25 : Int32) * (25 : Int32) = nI ((f + 1) % 25) := by
    rw [h3, nI_1, li25]
    exact pk_rem (by omega) (by decide) (by decide)
  have e4 : (u2 v (i + 4) 3 (nI ((f + 1) % 25))) (i + 4) 4 = nI (c + 1) := by
    rw [u2_k _ _ _ (by decide)]
    exact h4
  simp only [P_O_dropFirst, B_O_dropFirst, P_O_dropFirst_20, B_O_dropFirst_20, e, g, e4, nI_pred, if_false, not_false_eq_true, true_implies, false_implies, and_true, true_and]
theorem cv_add (fz i : Nat) (x : Int32) (v : HH) {c : Nat} (hc : c < 8) (h4 : v (i + 8) 1 = nI c) : P_L_add fz i x v ∧ B_L_add fz i x v = u2 (u2 v (i + 9) c x) (i + 8) 1 (nI (c + 1)) := by
  have g : ¬ (8 : Int32) ≤ v (i + 8) 1 := by rw [h4, li8]; exact nI_ge hc (by omega)
  have hx : ix (nI c) = c := nI_clamp (by omega)
  have hv : vp_in (nI c) 8 := vp_in_nI hc (by decide)
  have e4 : (u2 v (i + 9) c x) (i + 8) 1 = nI c := by
    rw [u2_i _ _ _ (by omega)]
    exact h4
  have g2 : ¬ (8 : Int32) ≤ nI c := by rw [li8]; exact nI_ge hc (by omega)
  simp only [P_L_add, B_L_add, P_L_add_19, B_L_add_19, h4, g2, hx, hv, e4, nI_1, if_false, not_false_eq_true, true_implies, false_implies, and_true, true_and]
theorem r_send_0 {n : Nat} {own blk ep ft : Nat → Nat} {sc : HH} {lk gr : Int32} {mp un : Nat → Nat → Bool} {q : Nat → List MSG} {wt : Nat → List Nat} {wx : Nat → Bool} {lg : Nat → List Nat} {us : Nat → Nat → Nat} {pv : Nat → Nat} {v m : HH} (fz : Nat) (hR : Rel n own blk ep ft sc lk gr mp un q wt wx lg us pv (v) (m)) (hl : (q 0).length < 25) (a : MSG) {k s x k2 s2 x2 : Int32} (hk : k = nI a.1) (hs : s = sbj a) (hx : x = vlu a) (hk2 : k2 = nI a.1) (hs2 : s2 = sbj a) (hx2 : x2 = vlu a) : P_O_send fz 1 k s x v ∧ P_M_send fz (nI 0) k2 s2 x2 m ∧ Rel n own blk ep ft sc lk gr mp un (ug q 0 (q 0 ++ [a])) wt wx lg us pv (B_O_send fz 1 k s x v) (B_M_send fz (nI 0) k2 s2 x2 m) := by
  rw [hk2, hs2, hx2, ← hk, ← hs, ← hx]
  obtain ⟨hL, hT, hX, hS0, hM0, hD0, hR0, hA0, hW0, hG0, hU0, hE0, hS1, hM1, hD1, hR1, hA1, hW1, hG1, hU1, hE1⟩ := hR
  obtain ⟨f, f1, f2, f3, f4, f5⟩ := hR0
  obtain ⟨c1, c2⟩ := hA0
  have s1 := cv_send fz 1 k s x v f1 hl f3 f4
  have s2 := cv_msend fz (b := 0) (by decide) k s x m hl c1
  refine ⟨s1.1, s2.1, ?_⟩
  rw [s1.2, s2.2]
  refine ⟨hL, hT, hX, hS0, hM0, hD0, ?_, ?_, hW0, hG0, hU0, hE0, hS1, hM1, hD1, hR1, ?_, hW1, hG1, hU1, hE1⟩
  · show GR (q 0 ++ [a]) _ _ _ _ _
    refine ⟨f, f1, by rw [List.length_append]; exact hl, f3, by rw [List.length_append]; rfl, ?_⟩
    intro k' a' hk'
    have r5 : ∀ z, (u2 (u2 (u2 (u2 v (1 + 5) ((f + (q 0).length) % 25) k) (1 + 6) ((f + (q 0).length) % 25) s) (1 + 7) ((f + (q 0).length) % 25) x) (1 + 4) 4 (nI ((q 0).length + 1))) 6 z = u2 v 6 ((f + (q 0).length) % 25) k 6 z := fun z => rfl
    have r6 : ∀ z, (u2 (u2 (u2 (u2 v (1 + 5) ((f + (q 0).length) % 25) k) (1 + 6) ((f + (q 0).length) % 25) s) (1 + 7) ((f + (q 0).length) % 25) x) (1 + 4) 4 (nI ((q 0).length + 1))) 7 z = u2 v 7 ((f + (q 0).length) % 25) s 7 z := fun z => rfl
    have r7 : ∀ z, (u2 (u2 (u2 (u2 v (1 + 5) ((f + (q 0).length) % 25) k) (1 + 6) ((f + (q 0).length) % 25) s) (1 + 7) ((f + (q 0).length) % 25) x) (1 + 4) 4 (nI ((q 0).length + 1))) 8 z = u2 v 8 ((f + (q 0).length) % 25) x 8 z := fun z => rfl
    rw [r5, r6, r7]
    rcases Nat.lt_or_ge k' (q 0).length with hlt | hge
    · rw [List.getElem?_append_left hlt] at hk'
      have hne : (f + k') % 25 ≠ (f + (q 0).length) % 25 := by omega
      rw [u2_k v k 6 hne, u2_k v s 7 hne, u2_k v x 8 hne]
      exact f5 k' a' hk'
    · rw [List.getElem?_append_right hge] at hk'
      have hk0 : k' - (q 0).length = 0 := by
        have := (List.getElem?_eq_some_iff.mp hk').1
        simpa using this
      rw [hk0] at hk'
      have ea : a = a' := by simpa using hk'
      have ek : k' = (q 0).length := by omega
      subst ea
      rw [ek, u2_s, u2_s, u2_s]
      exact ⟨hk, hs, hx⟩
  · show GA 0 (q 0 ++ [a]) _ _ _ _
    refine ⟨by rw [List.length_append]; rfl, ?_⟩
    intro k' a' hk'
    have r5 : ∀ z, (u2 (u2 (u2 (u2 m 48 (64 * 0 + (q 0).length) k) 49 (64 * 0 + (q 0).length) s) 50 (64 * 0 + (q 0).length) x) 51 0 (nI ((q 0).length + 1))) 48 z = u2 m 48 (64 * 0 + (q 0).length) k 48 z := fun z => rfl
    have r6 : ∀ z, (u2 (u2 (u2 (u2 m 48 (64 * 0 + (q 0).length) k) 49 (64 * 0 + (q 0).length) s) 50 (64 * 0 + (q 0).length) x) 51 0 (nI ((q 0).length + 1))) 49 z = u2 m 49 (64 * 0 + (q 0).length) s 49 z := fun z => rfl
    have r7 : ∀ z, (u2 (u2 (u2 (u2 m 48 (64 * 0 + (q 0).length) k) 49 (64 * 0 + (q 0).length) s) 50 (64 * 0 + (q 0).length) x) 51 0 (nI ((q 0).length + 1))) 50 z = u2 m 50 (64 * 0 + (q 0).length) x 50 z := fun z => rfl
    rw [r5, r6, r7]
    rcases Nat.lt_or_ge k' (q 0).length with hlt | hge
    · rw [List.getElem?_append_left hlt] at hk'
      have hne : 64 * 0 + k' ≠ 64 * 0 + (q 0).length := by omega
      rw [u2_k m k 48 hne, u2_k m s 49 hne, u2_k m x 50 hne]
      exact c2 k' a' hk'
    · rw [List.getElem?_append_right hge] at hk'
      have hk0 : k' - (q 0).length = 0 := by
        have := (List.getElem?_eq_some_iff.mp hk').1
        simpa using this
      rw [hk0] at hk'
      have ea : a = a' := by simpa using hk'
      have ek : k' = (q 0).length := by omega
      subst ea
      rw [ek, u2_s, u2_s, u2_s]
      exact ⟨hk, hs, hx⟩
  · refine ⟨hA1.1, ?_⟩
    intro k' a' hk'
    have hlen : k' < 25 := by
      obtain ⟨_, _, g2, _⟩ := hR1
      exact Nat.lt_of_lt_of_le (List.getElem?_eq_some_iff.mp hk').1 g2
    have r5 : ∀ z, (u2 (u2 (u2 (u2 m 48 (64 * 0 + (q 0).length) k) 49 (64 * 0 + (q 0).length) s) 50 (64 * 0 + (q 0).length) x) 51 0 (nI ((q 0).length + 1))) 48 z = u2 m 48 (64 * 0 + (q 0).length) k 48 z := fun z => rfl
    have r6 : ∀ z, (u2 (u2 (u2 (u2 m 48 (64 * 0 + (q 0).length) k) 49 (64 * 0 + (q 0).length) s) 50 (64 * 0 + (q 0).length) x) 51 0 (nI ((q 0).length + 1))) 49 z = u2 m 49 (64 * 0 + (q 0).length) s 49 z := fun z => rfl
    have r7 : ∀ z, (u2 (u2 (u2 (u2 m 48 (64 * 0 + (q 0).length) k) 49 (64 * 0 + (q 0).length) s) 50 (64 * 0 + (q 0).length) x) 51 0 (nI ((q 0).length + 1))) 50 z = u2 m 50 (64 * 0 + (q 0).length) x 50 z := fun z => rfl
    have hne : 64 * 1 + k' ≠ 64 * 0 + (q 0).length := by omega
    rw [r5, r6, r7, u2_k m k 48 hne, u2_k m s 49 hne, u2_k m x 50 hne]
    exact hA1.2 k' a' hk'
theorem r_drop_0 {n : Nat} {own blk ep ft : Nat → Nat} {sc : HH} {lk gr : Int32} {mp un : Nat → Nat → Bool} {q : Nat → List MSG} {wt : Nat → List Nat} {wx : Nat → Bool} {lg : Nat → List Nat} {us : Nat → Nat → Nat} {pv : Nat → Nat} {v m : HH} (fz : Nat) (hR : Rel n own blk ep ft sc lk gr mp un q wt wx lg us pv (v) (m)) {a : MSG} {tl : List MSG} (hq : q 0 = a :: tl) : tl.length < 25 ∧ (P_O_kindOfFirst fz 1 v ∧ P_O_subjectOfFirst fz 1 v ∧ P_O_valueOfFirst fz 1 v ∧ P_O_dropFirst fz 1 v) ∧ (B_O_kindOfFirst fz 1 v = nI a.1 ∧ B_O_subjectOfFirst fz 1 v = sbj a ∧ B_O_valueOfFirst fz 1 v = vlu a) ∧ (v 5 4 = nI (tl.length + 1) ∧ m 51 0 = nI (tl.length + 1)) ∧ (m 48 (64 * 0) = nI a.1 ∧ m 49 (64 * 0) = sbj a ∧ m 50 (64 * 0) = vlu a) ∧ Rel n own blk ep ft sc lk gr mp un (ug q 0 tl) wt wx lg us pv (B_O_dropFirst fz 1 v) (sh3 (64 * 0) (64 * 0 + tl.length) (u2 m 51 0 (nI tl.length))) := by
  obtain ⟨hL, hT, hX, hS0, hM0, hD0, hR0, hA0, hW0, hG0, hU0, hE0, hS1, hM1, hD1, hR1, hA1, hW1, hG1, hU1, hE1⟩ := hR
  obtain ⟨f, f1, f2, f3, f4, f5⟩ := hR0
  obtain ⟨c1, c2⟩ := hA0
  rw [hq, List.length_cons] at f2 f4 c1
  have g0 := f5 0 a (by rw [hq]; rfl)
  have g1 := c2 0 a (by rw [hq]; rfl)
  have ef : (f + 0) % 25 = f := by omega
  rw [ef] at g0
  have hx : ix (nI f) = f := nI_clamp (by omega)
  have hv : vp_in (nI f) 25 := vp_in_nI f1 (by decide)
  have f3' : v (1 + 4) 3 = nI f := f3
  have s1 := cv_drop fz 1 v (c := tl.length) f1 (by omega) f3 f4
  refine ⟨by omega, ⟨?_, ?_, ?_, s1.1⟩, ⟨?_, ?_, ?_⟩, ⟨f4, c1⟩, ⟨g1.1, g1.2.1, g1.2.2⟩, ?_⟩
  · simp only [P_O_kindOfFirst, f3', hv, and_true]
  · simp only [P_O_subjectOfFirst, f3', hv, and_true]
  · simp only [P_O_valueOfFirst, f3', hv, and_true]
  · rw [B_O_kindOfFirst, f3', hx]
    exact g0.1
  · rw [B_O_subjectOfFirst, f3', hx]
    exact g0.2.1
  · rw [B_O_valueOfFirst, f3', hx]
    exact g0.2.2
  rw [s1.2]
  refine ⟨hL, hT, hX, hS0, hM0, hD0, ?_, ?_, hW0, hG0, hU0, hE0, hS1, hM1, hD1, hR1, ?_, hW1, hG1, hU1, hE1⟩
  · show GR tl _ _ _ _ _
    refine ⟨(f + 1) % 25, by omega, by omega, rfl, rfl, ?_⟩
    intro k' a' hk'
    have g := f5 (k' + 1) a' (by rw [hq]; exact hk')
    have e : (f + 1) % 25 + k' = (f + 1) % 25 + k' := rfl
    have e2 : ((f + 1) % 25 + k') % 25 = (f + (k' + 1)) % 25 := by omega
    rw [e2]
    exact g
  · show GA 0 tl _ _ _ _
    refine ⟨rfl, ?_⟩
    intro k' a' hk'
    have hlt : k' < tl.length := (List.getElem?_eq_some_iff.mp hk').1
    have g := c2 (k' + 1) a' (by rw [hq]; exact hk')
    have e : ∀ c, (c = 48 ∨ c = 49 ∨ c = 50) → sh3 (64 * 0) (64 * 0 + tl.length) (u2 m 51 0 (nI tl.length)) c (64 * 0 + k') = m c (64 * 0 + (k' + 1)) := by
      intro c hc
      unfold sh3
      rw [if_pos ⟨hc, by omega, by omega⟩, u2_i m _ _ (by omega)]
      rfl
    rw [e 48 (by omega), e 49 (by omega), e 50 (by omega)]
    exact g
  · refine ⟨hA1.1, ?_⟩
    intro k' a' hk'
    have hlen : k' < 25 := by
      obtain ⟨_, _, g2, _⟩ := hR1
      exact Nat.lt_of_lt_of_le (List.getElem?_eq_some_iff.mp hk').1 g2
    have e : ∀ c, (c = 48 ∨ c = 49 ∨ c = 50) → sh3 (64 * 0) (64 * 0 + tl.length) (u2 m 51 0 (nI tl.length)) c (64 * 1 + k') = m c (64 * 1 + k') := by
      intro c hc
      unfold sh3
      rw [if_neg (by omega), u2_i m _ _ (by omega)]
    rw [e 48 (by omega), e 49 (by omega), e 50 (by omega)]
    exact hA1.2 k' a' hk'
theorem r_wadd_0 {n : Nat} {own blk ep ft : Nat → Nat} {sc : HH} {lk gr : Int32} {mp un : Nat → Nat → Bool} {q : Nat → List MSG} {wt : Nat → List Nat} {wx : Nat → Bool} {lg : Nat → List Nat} {us : Nat → Nat → Nat} {pv : Nat → Nat} {v m : HH} (fz : Nat) (hR : Rel n own blk ep ft sc lk gr mp un q wt wx lg us pv (v) (m)) (hl : (wt 0).length < 8) {w : Nat} {x : Int32} (hx : x = nI w) : P_L_add fz 1 x v ∧ Rel n own blk ep ft sc lk gr mp un q (ug wt 0 (wt 0 ++ [w])) wx lg us pv (B_L_add fz 1 x v) (m) := by
  obtain ⟨hL, hT, hX, hS0, hM0, hD0, hR0, hA0, hW0, hG0, hU0, hE0, hS1, hM1, hD1, hR1, hA1, hW1, hG1, hU1, hE1⟩ := hR
  obtain ⟨f1, f2, f3⟩ := hW0
  have s1 := cv_add fz 1 x v hl f2
  refine ⟨s1.1, ?_⟩
  rw [s1.2]
  refine ⟨hL, hT, hX, hS0, hM0, hD0, hR0, hA0, ?_, hG0, hU0, hE0, hS1, hM1, hD1, hR1, hA1, hW1, hG1, hU1, hE1⟩
  show GW (wt 0 ++ [w]) _ _
  refine ⟨by rw [List.length_append]; exact hl, by rw [List.length_append]; rfl, ?_⟩
  intro k' a' hk'
  have r5 : ∀ z, (u2 (u2 v (1 + 9) (wt 0).length x) (1 + 8) 1 (nI ((wt 0).length + 1))) 10 z = u2 v 10 (wt 0).length x 10 z := fun z => rfl
  rw [r5]
  rcases Nat.lt_or_ge k' (wt 0).length with hlt | hge
  · rw [List.getElem?_append_left hlt] at hk'
    rw [u2_k v x 10 (show k' ≠ (wt 0).length by omega)]
    exact f3 k' a' hk'
  · rw [List.getElem?_append_right hge] at hk'
    have hk0 : k' - (wt 0).length = 0 := by
      have := (List.getElem?_eq_some_iff.mp hk').1
      simpa using this
    rw [hk0] at hk'
    have ea : w = a' := by simpa using hk'
    have ek : k' = (wt 0).length := by omega
    subst ea
    rw [ek, u2_s]
    exact hx
theorem r_wrem_0 {n : Nat} {own blk ep ft : Nat → Nat} {sc : HH} {lk gr : Int32} {mp un : Nat → Nat → Bool} {q : Nat → List MSG} {wt : Nat → List Nat} {wx : Nat → Bool} {lg : Nat → List Nat} {us : Nat → Nat → Nat} {pv : Nat → Nat} {v m : HH} (fz : Nat) (hz : 400 ≤ fz) (hR : Rel n own blk ep ft sc lk gr mp un q wt wx lg us pv (v) (m)) {k w : Nat} (hk : (wt 0)[k]? = some w) {x : Int32} (hx : x = nI k) : P_L_remove fz 1 x v ∧ Rel n own blk ep ft sc lk gr mp un q (ug wt 0 ((wt 0).eraseIdx k)) wx lg us pv (B_L_remove fz 1 x v) (m) := by
  subst hx
  obtain ⟨hL, hT, hX, hS0, hM0, hD0, hR0, hA0, hW0, hG0, hU0, hE0, hS1, hM1, hD1, hR1, hA1, hW1, hG1, hU1, hE1⟩ := hR
  obtain ⟨f1, f2, f3⟩ := hW0
  have hlt : k < (wt 0).length := (List.getElem?_eq_some_iff.mp hk).1
  have s1 := cv_remove fz hz 1 f1 v f2 hlt
  refine ⟨s1.1, ?_⟩
  rw [s1.2]
  refine ⟨hL, hT, hX, hS0, hM0, hD0, hR0, hA0, ?_, hG0, hU0, hE0, hS1, hM1, hD1, hR1, hA1, hW1, hG1, hU1, hE1⟩
  show GW ((wt 0).eraseIdx k) _ _
  have hlen : ((wt 0).eraseIdx k).length = (wt 0).length - 1 := List.length_eraseIdx_of_lt hlt
  refine ⟨by omega, by rw [hlen]; rfl, ?_⟩
  intro k' a' hk'
  have hk2 : k' < (wt 0).length - 1 := by
    have := (List.getElem?_eq_some_iff.mp hk').1
    omega
  rw [List.getElem?_eraseIdx] at hk'
  by_cases hc : k' < k
  · rw [if_pos hc] at hk'
    have e : wrm 1 k (wt 0).length v 10 k' = v 10 k' := by
      unfold wrm
      rw [if_neg (by omega), if_neg (by omega)]
    rw [e]
    exact f3 k' a' hk'
  · rw [if_neg hc] at hk'
    have e : wrm 1 k (wt 0).length v 10 k' = v 10 (k' + 1) := by
      unfold wrm
      rw [if_pos (by omega)]
    rw [e]
    exact f3 (k' + 1) a' hk'
theorem r_send_1 {n : Nat} {own blk ep ft : Nat → Nat} {sc : HH} {lk gr : Int32} {mp un : Nat → Nat → Bool} {q : Nat → List MSG} {wt : Nat → List Nat} {wx : Nat → Bool} {lg : Nat → List Nat} {us : Nat → Nat → Nat} {pv : Nat → Nat} {v m : HH} (fz : Nat) (hR : Rel n own blk ep ft sc lk gr mp un q wt wx lg us pv (v) (m)) (hl : (q 1).length < 25) (a : MSG) {k s x k2 s2 x2 : Int32} (hk : k = nI a.1) (hs : s = sbj a) (hx : x = vlu a) (hk2 : k2 = nI a.1) (hs2 : s2 = sbj a) (hx2 : x2 = vlu a) : P_O_send fz 11 k s x v ∧ P_M_send fz (nI 1) k2 s2 x2 m ∧ Rel n own blk ep ft sc lk gr mp un (ug q 1 (q 1 ++ [a])) wt wx lg us pv (B_O_send fz 11 k s x v) (B_M_send fz (nI 1) k2 s2 x2 m) := by
  rw [hk2, hs2, hx2, ← hk, ← hs, ← hx]
  obtain ⟨hL, hT, hX, hS0, hM0, hD0, hR0, hA0, hW0, hG0, hU0, hE0, hS1, hM1, hD1, hR1, hA1, hW1, hG1, hU1, hE1⟩ := hR
  obtain ⟨f, f1, f2, f3, f4, f5⟩ := hR1
  obtain ⟨c1, c2⟩ := hA1
  have s1 := cv_send fz 11 k s x v f1 hl f3 f4
  have s2 := cv_msend fz (b := 1) (by decide) k s x m hl c1
  refine ⟨s1.1, s2.1, ?_⟩
  rw [s1.2, s2.2]
  refine ⟨hL, hT, hX, hS0, hM0, hD0, hR0, ?_, hW0, hG0, hU0, hE0, hS1, hM1, hD1, ?_, ?_, hW1, hG1, hU1, hE1⟩
  · refine ⟨hA0.1, ?_⟩
    intro k' a' hk'
    have hlen : k' < 25 := by
      obtain ⟨_, _, g2, _⟩ := hR0
      exact Nat.lt_of_lt_of_le (List.getElem?_eq_some_iff.mp hk').1 g2
    have r5 : ∀ z, (u2 (u2 (u2 (u2 m 48 (64 * 1 + (q 1).length) k) 49 (64 * 1 + (q 1).length) s) 50 (64 * 1 + (q 1).length) x) 51 1 (nI ((q 1).length + 1))) 48 z = u2 m 48 (64 * 1 + (q 1).length) k 48 z := fun z => rfl
    have r6 : ∀ z, (u2 (u2 (u2 (u2 m 48 (64 * 1 + (q 1).length) k) 49 (64 * 1 + (q 1).length) s) 50 (64 * 1 + (q 1).length) x) 51 1 (nI ((q 1).length + 1))) 49 z = u2 m 49 (64 * 1 + (q 1).length) s 49 z := fun z => rfl
    have r7 : ∀ z, (u2 (u2 (u2 (u2 m 48 (64 * 1 + (q 1).length) k) 49 (64 * 1 + (q 1).length) s) 50 (64 * 1 + (q 1).length) x) 51 1 (nI ((q 1).length + 1))) 50 z = u2 m 50 (64 * 1 + (q 1).length) x 50 z := fun z => rfl
    have hne : 64 * 0 + k' ≠ 64 * 1 + (q 1).length := by omega
    rw [r5, r6, r7, u2_k m k 48 hne, u2_k m s 49 hne, u2_k m x 50 hne]
    exact hA0.2 k' a' hk'
  · show GR (q 1 ++ [a]) _ _ _ _ _
    refine ⟨f, f1, by rw [List.length_append]; exact hl, f3, by rw [List.length_append]; rfl, ?_⟩
    intro k' a' hk'
    have r5 : ∀ z, (u2 (u2 (u2 (u2 v (11 + 5) ((f + (q 1).length) % 25) k) (11 + 6) ((f + (q 1).length) % 25) s) (11 + 7) ((f + (q 1).length) % 25) x) (11 + 4) 4 (nI ((q 1).length + 1))) 16 z = u2 v 16 ((f + (q 1).length) % 25) k 16 z := fun z => rfl
    have r6 : ∀ z, (u2 (u2 (u2 (u2 v (11 + 5) ((f + (q 1).length) % 25) k) (11 + 6) ((f + (q 1).length) % 25) s) (11 + 7) ((f + (q 1).length) % 25) x) (11 + 4) 4 (nI ((q 1).length + 1))) 17 z = u2 v 17 ((f + (q 1).length) % 25) s 17 z := fun z => rfl
    have r7 : ∀ z, (u2 (u2 (u2 (u2 v (11 + 5) ((f + (q 1).length) % 25) k) (11 + 6) ((f + (q 1).length) % 25) s) (11 + 7) ((f + (q 1).length) % 25) x) (11 + 4) 4 (nI ((q 1).length + 1))) 18 z = u2 v 18 ((f + (q 1).length) % 25) x 18 z := fun z => rfl
    rw [r5, r6, r7]
    rcases Nat.lt_or_ge k' (q 1).length with hlt | hge
    · rw [List.getElem?_append_left hlt] at hk'
      have hne : (f + k') % 25 ≠ (f + (q 1).length) % 25 := by omega
      rw [u2_k v k 16 hne, u2_k v s 17 hne, u2_k v x 18 hne]
      exact f5 k' a' hk'
    · rw [List.getElem?_append_right hge] at hk'
      have hk0 : k' - (q 1).length = 0 := by
        have := (List.getElem?_eq_some_iff.mp hk').1
        simpa using this
      rw [hk0] at hk'
      have ea : a = a' := by simpa using hk'
      have ek : k' = (q 1).length := by omega
      subst ea
      rw [ek, u2_s, u2_s, u2_s]
      exact ⟨hk, hs, hx⟩
  · show GA 1 (q 1 ++ [a]) _ _ _ _
    refine ⟨by rw [List.length_append]; rfl, ?_⟩
    intro k' a' hk'
    have r5 : ∀ z, (u2 (u2 (u2 (u2 m 48 (64 * 1 + (q 1).length) k) 49 (64 * 1 + (q 1).length) s) 50 (64 * 1 + (q 1).length) x) 51 1 (nI ((q 1).length + 1))) 48 z = u2 m 48 (64 * 1 + (q 1).length) k 48 z := fun z => rfl
    have r6 : ∀ z, (u2 (u2 (u2 (u2 m 48 (64 * 1 + (q 1).length) k) 49 (64 * 1 + (q 1).length) s) 50 (64 * 1 + (q 1).length) x) 51 1 (nI ((q 1).length + 1))) 49 z = u2 m 49 (64 * 1 + (q 1).length) s 49 z := fun z => rfl
    have r7 : ∀ z, (u2 (u2 (u2 (u2 m 48 (64 * 1 + (q 1).length) k) 49 (64 * 1 + (q 1).length) s) 50 (64 * 1 + (q 1).length) x) 51 1 (nI ((q 1).length + 1))) 50 z = u2 m 50 (64 * 1 + (q 1).length) x 50 z := fun z => rfl
    rw [r5, r6, r7]
    rcases Nat.lt_or_ge k' (q 1).length with hlt | hge
    · rw [List.getElem?_append_left hlt] at hk'
      have hne : 64 * 1 + k' ≠ 64 * 1 + (q 1).length := by omega
      rw [u2_k m k 48 hne, u2_k m s 49 hne, u2_k m x 50 hne]
      exact c2 k' a' hk'
    · rw [List.getElem?_append_right hge] at hk'
      have hk0 : k' - (q 1).length = 0 := by
        have := (List.getElem?_eq_some_iff.mp hk').1
        simpa using this
      rw [hk0] at hk'
      have ea : a = a' := by simpa using hk'
      have ek : k' = (q 1).length := by omega
      subst ea
      rw [ek, u2_s, u2_s, u2_s]
      exact ⟨hk, hs, hx⟩
theorem r_drop_1 {n : Nat} {own blk ep ft : Nat → Nat} {sc : HH} {lk gr : Int32} {mp un : Nat → Nat → Bool} {q : Nat → List MSG} {wt : Nat → List Nat} {wx : Nat → Bool} {lg : Nat → List Nat} {us : Nat → Nat → Nat} {pv : Nat → Nat} {v m : HH} (fz : Nat) (hR : Rel n own blk ep ft sc lk gr mp un q wt wx lg us pv (v) (m)) {a : MSG} {tl : List MSG} (hq : q 1 = a :: tl) : tl.length < 25 ∧ (P_O_kindOfFirst fz 11 v ∧ P_O_subjectOfFirst fz 11 v ∧ P_O_valueOfFirst fz 11 v ∧ P_O_dropFirst fz 11 v) ∧ (B_O_kindOfFirst fz 11 v = nI a.1 ∧ B_O_subjectOfFirst fz 11 v = sbj a ∧ B_O_valueOfFirst fz 11 v = vlu a) ∧ (v 15 4 = nI (tl.length + 1) ∧ m 51 1 = nI (tl.length + 1)) ∧ (m 48 (64 * 1) = nI a.1 ∧ m 49 (64 * 1) = sbj a ∧ m 50 (64 * 1) = vlu a) ∧ Rel n own blk ep ft sc lk gr mp un (ug q 1 tl) wt wx lg us pv (B_O_dropFirst fz 11 v) (sh3 (64 * 1) (64 * 1 + tl.length) (u2 m 51 1 (nI tl.length))) := by
  obtain ⟨hL, hT, hX, hS0, hM0, hD0, hR0, hA0, hW0, hG0, hU0, hE0, hS1, hM1, hD1, hR1, hA1, hW1, hG1, hU1, hE1⟩ := hR
  obtain ⟨f, f1, f2, f3, f4, f5⟩ := hR1
  obtain ⟨c1, c2⟩ := hA1
  rw [hq, List.length_cons] at f2 f4 c1
  have g0 := f5 0 a (by rw [hq]; rfl)
  have g1 := c2 0 a (by rw [hq]; rfl)
  have ef : (f + 0) % 25 = f := by omega
  rw [ef] at g0
  have hx : ix (nI f) = f := nI_clamp (by omega)
  have hv : vp_in (nI f) 25 := vp_in_nI f1 (by decide)
  have f3' : v (11 + 4) 3 = nI f := f3
  have s1 := cv_drop fz 11 v (c := tl.length) f1 (by omega) f3 f4
  refine ⟨by omega, ⟨?_, ?_, ?_, s1.1⟩, ⟨?_, ?_, ?_⟩, ⟨f4, c1⟩, ⟨g1.1, g1.2.1, g1.2.2⟩, ?_⟩
  · simp only [P_O_kindOfFirst, f3', hv, and_true]
  · simp only [P_O_subjectOfFirst, f3', hv, and_true]
  · simp only [P_O_valueOfFirst, f3', hv, and_true]
  · rw [B_O_kindOfFirst, f3', hx]
    exact g0.1
  · rw [B_O_subjectOfFirst, f3', hx]
    exact g0.2.1
  · rw [B_O_valueOfFirst, f3', hx]
    exact g0.2.2
  rw [s1.2]
  refine ⟨hL, hT, hX, hS0, hM0, hD0, hR0, ?_, hW0, hG0, hU0, hE0, hS1, hM1, hD1, ?_, ?_, hW1, hG1, hU1, hE1⟩
  · refine ⟨hA0.1, ?_⟩
    intro k' a' hk'
    have hlen : k' < 25 := by
      obtain ⟨_, _, g2, _⟩ := hR0
      exact Nat.lt_of_lt_of_le (List.getElem?_eq_some_iff.mp hk').1 g2
    have e : ∀ c, (c = 48 ∨ c = 49 ∨ c = 50) → sh3 (64 * 1) (64 * 1 + tl.length) (u2 m 51 1 (nI tl.length)) c (64 * 0 + k') = m c (64 * 0 + k') := by
      intro c hc
      unfold sh3
      rw [if_neg (by omega), u2_i m _ _ (by omega)]
    rw [e 48 (by omega), e 49 (by omega), e 50 (by omega)]
    exact hA0.2 k' a' hk'
  · show GR tl _ _ _ _ _
    refine ⟨(f + 1) % 25, by omega, by omega, rfl, rfl, ?_⟩
    intro k' a' hk'
    have g := f5 (k' + 1) a' (by rw [hq]; exact hk')
    have e : (f + 1) % 25 + k' = (f + 1) % 25 + k' := rfl
    have e2 : ((f + 1) % 25 + k') % 25 = (f + (k' + 1)) % 25 := by omega
    rw [e2]
    exact g
  · show GA 1 tl _ _ _ _
    refine ⟨rfl, ?_⟩
    intro k' a' hk'
    have hlt : k' < tl.length := (List.getElem?_eq_some_iff.mp hk').1
    have g := c2 (k' + 1) a' (by rw [hq]; exact hk')
    have e : ∀ c, (c = 48 ∨ c = 49 ∨ c = 50) → sh3 (64 * 1) (64 * 1 + tl.length) (u2 m 51 1 (nI tl.length)) c (64 * 1 + k') = m c (64 * 1 + (k' + 1)) := by
      intro c hc
      unfold sh3
      rw [if_pos ⟨hc, by omega, by omega⟩, u2_i m _ _ (by omega)]
      rfl
    rw [e 48 (by omega), e 49 (by omega), e 50 (by omega)]
    exact g
theorem r_wadd_1 {n : Nat} {own blk ep ft : Nat → Nat} {sc : HH} {lk gr : Int32} {mp un : Nat → Nat → Bool} {q : Nat → List MSG} {wt : Nat → List Nat} {wx : Nat → Bool} {lg : Nat → List Nat} {us : Nat → Nat → Nat} {pv : Nat → Nat} {v m : HH} (fz : Nat) (hR : Rel n own blk ep ft sc lk gr mp un q wt wx lg us pv (v) (m)) (hl : (wt 1).length < 8) {w : Nat} {x : Int32} (hx : x = nI w) : P_L_add fz 11 x v ∧ Rel n own blk ep ft sc lk gr mp un q (ug wt 1 (wt 1 ++ [w])) wx lg us pv (B_L_add fz 11 x v) (m) := by
  obtain ⟨hL, hT, hX, hS0, hM0, hD0, hR0, hA0, hW0, hG0, hU0, hE0, hS1, hM1, hD1, hR1, hA1, hW1, hG1, hU1, hE1⟩ := hR
  obtain ⟨f1, f2, f3⟩ := hW1
  have s1 := cv_add fz 11 x v hl f2
  refine ⟨s1.1, ?_⟩
  rw [s1.2]
  refine ⟨hL, hT, hX, hS0, hM0, hD0, hR0, hA0, hW0, hG0, hU0, hE0, hS1, hM1, hD1, hR1, hA1, ?_, hG1, hU1, hE1⟩
  show GW (wt 1 ++ [w]) _ _
  refine ⟨by rw [List.length_append]; exact hl, by rw [List.length_append]; rfl, ?_⟩
  intro k' a' hk'
  have r5 : ∀ z, (u2 (u2 v (11 + 9) (wt 1).length x) (11 + 8) 1 (nI ((wt 1).length + 1))) 20 z = u2 v 20 (wt 1).length x 20 z := fun z => rfl
  rw [r5]
  rcases Nat.lt_or_ge k' (wt 1).length with hlt | hge
  · rw [List.getElem?_append_left hlt] at hk'
    rw [u2_k v x 20 (show k' ≠ (wt 1).length by omega)]
    exact f3 k' a' hk'
  · rw [List.getElem?_append_right hge] at hk'
    have hk0 : k' - (wt 1).length = 0 := by
      have := (List.getElem?_eq_some_iff.mp hk').1
      simpa using this
    rw [hk0] at hk'
    have ea : w = a' := by simpa using hk'
    have ek : k' = (wt 1).length := by omega
    subst ea
    rw [ek, u2_s]
    exact hx
theorem r_wrem_1 {n : Nat} {own blk ep ft : Nat → Nat} {sc : HH} {lk gr : Int32} {mp un : Nat → Nat → Bool} {q : Nat → List MSG} {wt : Nat → List Nat} {wx : Nat → Bool} {lg : Nat → List Nat} {us : Nat → Nat → Nat} {pv : Nat → Nat} {v m : HH} (fz : Nat) (hz : 400 ≤ fz) (hR : Rel n own blk ep ft sc lk gr mp un q wt wx lg us pv (v) (m)) {k w : Nat} (hk : (wt 1)[k]? = some w) {x : Int32} (hx : x = nI k) : P_L_remove fz 11 x v ∧ Rel n own blk ep ft sc lk gr mp un q (ug wt 1 ((wt 1).eraseIdx k)) wx lg us pv (B_L_remove fz 11 x v) (m) := by
  subst hx
  obtain ⟨hL, hT, hX, hS0, hM0, hD0, hR0, hA0, hW0, hG0, hU0, hE0, hS1, hM1, hD1, hR1, hA1, hW1, hG1, hU1, hE1⟩ := hR
  obtain ⟨f1, f2, f3⟩ := hW1
  have hlt : k < (wt 1).length := (List.getElem?_eq_some_iff.mp hk).1
  have s1 := cv_remove fz hz 11 f1 v f2 hlt
  refine ⟨s1.1, ?_⟩
  rw [s1.2]
  refine ⟨hL, hT, hX, hS0, hM0, hD0, hR0, hA0, hW0, hG0, hU0, hE0, hS1, hM1, hD1, hR1, hA1, ?_, hG1, hU1, hE1⟩
  show GW ((wt 1).eraseIdx k) _ _
  have hlen : ((wt 1).eraseIdx k).length = (wt 1).length - 1 := List.length_eraseIdx_of_lt hlt
  refine ⟨by omega, by rw [hlen]; rfl, ?_⟩
  intro k' a' hk'
  have hk2 : k' < (wt 1).length - 1 := by
    have := (List.getElem?_eq_some_iff.mp hk').1
    omega
  rw [List.getElem?_eraseIdx] at hk'
  by_cases hc : k' < k
  · rw [if_pos hc] at hk'
    have e : wrm 11 k (wt 1).length v 20 k' = v 20 k' := by
      unfold wrm
      rw [if_neg (by omega), if_neg (by omega)]
    rw [e]
    exact f3 k' a' hk'
  · rw [if_neg hc] at hk'
    have e : wrm 11 k (wt 1).length v 20 k' = v 20 (k' + 1) := by
      unfold wrm
      rw [if_pos (by omega)]
    rw [e]
    exact f3 (k' + 1) a' hk'
theorem r_wx {n : Nat} {own blk ep ft : Nat → Nat} {sc : HH} {lk gr : Int32} {mp un : Nat → Nat → Bool} {q : Nat → List MSG} {wt : Nat → List Nat} {wx : Nat → Bool} {lg : Nat → List Nat} {us : Nat → Nat → Nat} {pv : Nat → Nat} {v m : HH} (hR : Rel n own blk ep ft sc lk gr mp un q wt wx lg us pv (v) (m)) {w : Nat} (h1 : 1 ≤ w) (f : Bool) {x : Int32} (hx : x = bi f) : Rel n own blk ep ft sc lk gr mp un q wt (ug wx w f) lg us pv (v) (u2 m 33 w x) := by
  obtain ⟨hL, hT, hX, hS0, hM0, hD0, hR0, hA0, hW0, hG0, hU0, hE0, hS1, hM1, hD1, hR1, hA1, hW1, hG1, hU1, hE1⟩ := hR
  refine ⟨hL, hT, ?_, hS0, hM0, hD0, hR0, hA0, hW0, hG0, hU0, hE0, hS1, hM1, hD1, hR1, hA1, hW1, hG1, hU1, hE1⟩
  intro w' g1 g2
  by_cases e : w' = w
  · subst e
    rw [u2_s, hx]
    have e2 : ug wx w' f w' = f := if_pos rfl
    rw [e2]
  · rw [u2_k m x 33 e]
    have e2 : ug wx w f w' = wx w' := if_neg e
    rw [e2]
    exact hX w' g1 g2
