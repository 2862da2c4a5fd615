theorem cf_countPending (fz : Nat) (x : Int32) (h : HH) {n : Nat} (hn : n ≤ 300) (h5 : h 21 5 = nI n) : ∀ (k fu w acc : Nat), w + k = n + 1 → k < fu → P_T_countPending_4 fz fu x (nI acc) (nI w) h ∧ B_T_countPending_4 fz fu x (nI acc) (nI w) h = nI (acc + cn (fun i => decide (h 22 i = x ∧ h 26 i = 1)) w k) := by
  intro k
  induction k with
  | zero =>
    intro fu w acc hk hf
    obtain ⟨fu, rfl⟩ : ∃ q, fu = q + 1 := ⟨fu - 1, by omega⟩
    have g : h 21 5 < nI w := by rw [h5]; exact nI_lt (by omega) (by omega)
    simp [P_T_countPending_4, B_T_countPending_4, g, cn]
  | succ k ih =>
    intro fu w acc hk hf
    obtain ⟨fu, rfl⟩ : ∃ q, fu = q + 1 := ⟨fu - 1, by omega⟩
    have g : ¬ h 21 5 < nI w := by rw [h5]; exact nI_nlt (by omega) (by omega)
    have hx : ix (nI w) = w := nI_clamp (by omega)
    have hv : vp_in (nI w) 301 := vp_in_nI (by omega) (by decide)
    have i0 := ih fu (w + 1) acc (by omega) (by omega)
    have i1 := ih fu (w + 1) (acc + 1) (by omega) (by omega)
    by_cases c1 : h 22 w = x
    · by_cases c2 : h 26 w = 1
      · simp [P_T_countPending_4, B_T_countPending_4, P_T_isPendingOf, B_T_isPendingOf, hx, hv, g, c1, c2, nI_1, i1, cn, Nat.add_assoc]
      · simp [P_T_countPending_4, B_T_countPending_4, P_T_isPendingOf, B_T_isPendingOf, hx, hv, g, c1, c2, nI_1, i0, cn]
    · simp [P_T_countPending_4, B_T_countPending_4, P_T_isPendingOf, B_T_isPendingOf, hx, hv, g, c1, nI_1, i0, cn]
theorem cv_countPending (fz : Nat) (hz : 400 ≤ fz) (x : Int32) (h : HH) {n : Nat} (hn : n ≤ 300) (h5 : h 21 5 = nI n) : P_T_countPending fz x h ∧ B_T_countPending fz x h = nI (cn (fun i => decide (h 22 i = x ∧ h 26 i = 1)) 1 n) := by
  have q := cf_countPending fz x h hn h5 n fz 1 0 (by omega) (by omega)
  rw [← li0, ← li1, Nat.zero_add] at q
  exact q
theorem cf_pendingBlocks (fz : Nat) (x : Int32) (h : HH) {n : Nat} (hn : n ≤ 300) (h5 : h 21 5 = nI n) (hb : ∀ w, 1 ≤ w → w ≤ n → ∃ a, a < 32 ∧ h 23 w = nI a) : ∀ (k fu w : Nat) (acc : Int32), 1 ≤ w → w + k = n + 1 → k < fu → P_T_pendingBlocks_4 fz fu x acc (nI w) h ∧ ∀ j, j < 32 → (bt (B_T_pendingBlocks_4 fz fu x acc (nI w) h) j = true ↔ bt acc j = true ∨ ∃ i, w ≤ i ∧ i ≤ n ∧ h 22 i = x ∧ h 26 i = 1 ∧ h 23 i = nI j) := by
  intro k
  induction k with
  | zero =>
    intro fu w acc h1 hk hf
    obtain ⟨fu, rfl⟩ : ∃ q, fu = q + 1 := ⟨fu - 1, by omega⟩
    have g : h 21 5 < nI w := by rw [h5]; exact nI_lt (by omega) (by omega)
    refine ⟨by simp [P_T_pendingBlocks_4, g], fun j hj => ?_⟩
    simp only [B_T_pendingBlocks_4, g, if_true]
    exact ⟨Or.inl, fun q => q.elim id (fun ⟨i, a, b, _⟩ => by omega)⟩
  | succ k ih =>
    intro fu w acc h1 hk hf
    obtain ⟨fu, rfl⟩ : ∃ q, fu = q + 1 := ⟨fu - 1, by omega⟩
    have g : ¬ h 21 5 < nI w := by rw [h5]; exact nI_nlt (by omega) (by omega)
    have hx : ix (nI w) = w := nI_clamp (by omega)
    have hv : vp_in (nI w) 301 := vp_in_nI (by omega) (by decide)
    obtain ⟨a, ha, hb1⟩ := hb w h1 (by omega)
    have i0 := ih fu (w + 1) acc (by omega) (by omega) (by omega)
    have i1 := ih fu (w + 1) (acc ||| ((1 : Int32) <<< (nI a &&& 31))) (by omega) (by omega) (by omega)
    by_cases c : h 22 w = x ∧ h 26 w = 1
    · obtain ⟨c1, c2⟩ := c
      refine ⟨by simp [P_T_pendingBlocks_4, P_T_isPendingOf, B_T_isPendingOf, hx, hv, g, c1, c2, nI_1, i1.1, hb1], fun j hj => ?_⟩
      have e : B_T_pendingBlocks_4 fz (fu + 1) x acc (nI w) h = B_T_pendingBlocks_4 fz fu x (acc ||| ((1 : Int32) <<< (nI a &&& 31))) (nI (w + 1)) h := by simp [B_T_pendingBlocks_4, B_T_isPendingOf, hx, g, c1, c2, nI_1, hb1]
      rw [e, i1.2 j hj, bt_set acc ha hj]
      constructor
      · rintro (q | ⟨i, q1, q2, q3⟩)
        · rcases Bool.or_eq_true_iff.mp q with q | q
          · exact Or.inl q
          · have : j = a := by simpa using q
            exact Or.inr ⟨w, Nat.le_refl _, by omega, c1, c2, by rw [hb1, this]⟩
        · exact Or.inr ⟨i, by omega, q2, q3⟩
      · rintro (q | ⟨i, q1, q2, q3, q4, q5⟩)
        · exact Or.inl (by rw [q]; rfl)
        · by_cases ei : i = w
          · rw [ei, hb1] at q5
            have : a = j := (nI_eq (by omega) (by omega)).mp q5
            exact Or.inl (by simp [this])
          · exact Or.inr ⟨i, by omega, q2, q3, q4, q5⟩
    · have e : B_T_pendingBlocks_4 fz (fu + 1) x acc (nI w) h = B_T_pendingBlocks_4 fz fu x acc (nI (w + 1)) h := by
        by_cases c1 : h 22 w = x
        · have c2 : ¬ h 26 w = 1 := fun q => c ⟨c1, q⟩
          simp [B_T_pendingBlocks_4, B_T_isPendingOf, hx, g, c1, c2, nI_1]
        · simp [B_T_pendingBlocks_4, B_T_isPendingOf, hx, g, c1, nI_1]
      have ep : P_T_pendingBlocks_4 fz (fu + 1) x acc (nI w) h := by
        by_cases c1 : h 22 w = x
        · have c2 : ¬ h 26 w = 1 := fun q => c ⟨c1, q⟩
          simp [P_T_pendingBlocks_4, P_T_isPendingOf, B_T_isPendingOf, hx, hv, g, c1, c2, nI_1, i0.1]
        · simp [P_T_pendingBlocks_4, P_T_isPendingOf, B_T_isPendingOf, hx, hv, g, c1, nI_1, i0.1]
      refine ⟨ep, fun j hj => ?_⟩
      rw [e, i0.2 j hj]
      constructor
      · rintro (q | ⟨i, q1, q2⟩)
        · exact Or.inl q
        · exact Or.inr ⟨i, by omega, q2⟩
      · rintro (q | ⟨i, q1, q2, q3, q4, q5⟩)
        · exact Or.inl q
        · by_cases ei : i = w
          · rw [ei] at q3 q4
            exact absurd ⟨q3, q4⟩ c
          · exact Or.inr ⟨i, by omega, q2, q3, q4, q5⟩
theorem cv_pendingBlocks (fz : Nat) (hz : 400 ≤ fz) (x : Int32) (h : HH) {n : Nat} (hn : n ≤ 300) (h5 : h 21 5 = nI n) (hb : ∀ w, 1 ≤ w → w ≤ n → ∃ a, a < 32 ∧ h 23 w = nI a) : P_T_pendingBlocks fz x h ∧ ∀ j, j < 32 → (bt (B_T_pendingBlocks fz x h) j = true ↔ ∃ i, 1 ≤ i ∧ i ≤ n ∧ h 22 i = x ∧ h 26 i = 1 ∧ h 23 i = nI j) := by
  have q := cf_pendingBlocks fz x h hn h5 hb n fz 1 0 (by omega) (by omega) (by omega)
  rw [← li1] at q
  refine ⟨q.1, fun j hj => ?_⟩
  have q2 := q.2 j hj
  rw [b_0] at q2
  refine Iff.trans q2 ⟨fun r => r.elim (fun r => by cases r) id, Or.inr⟩
def chF (cF cO : Nat) (x a y : Int32) (w n : Nat) (h : HH) : HH := fun c k => if c = cF ∧ (w ≤ k ∧ k ≤ n) ∧ h cO k = x ∧ h cF k = a then y else h c k
theorem chF_end {cF cO : Nat} {x a y : Int32} {w n : Nat} {h : HH} (hw : n < w) : chF cF cO x a y w n h = h := by
  funext c k
  unfold chF
  rw [if_neg (fun q => by omega)]
theorem chF_hit {cF cO : Nat} {x a y : Int32} {w n : Nat} {h : HH} (hne : cO ≠ cF) (hw : w ≤ n) (h1 : h cO w = x) (h2 : h cF w = a) : chF cF cO x a y (w + 1) n (u2 h cF w y) = chF cF cO x a y w n h := by
  funext c k
  unfold chF u2
  by_cases hc : c = cF
  · by_cases hk : k = w
    · subst hc
      subst hk
      simp [h1, h2, hw]
    · have e : (w + 1 ≤ k ∧ k ≤ n) ↔ (w ≤ k ∧ k ≤ n) := by omega
      simp [hc, hk, hne, e]
  · simp [hc]
theorem chF_miss {cF cO : Nat} {x a y : Int32} {w n : Nat} {h : HH} (h1 : ¬ (h cO w = x ∧ h cF w = a)) : chF cF cO x a y (w + 1) n h = chF cF cO x a y w n h := by
  funext c k
  unfold chF
  by_cases hk : k = w
  · subst hk
    have e : ¬ (k + 1 ≤ k ∧ k ≤ n) := by omega
    rw [if_neg (fun q => e q.2.1), if_neg (fun q => h1 q.2.2)]
  · have e : (w + 1 ≤ k ∧ k ≤ n) ↔ (w ≤ k ∧ k ≤ n) := by omega
    simp only [e]

theorem cf_changeFates (fz : Nat) (x a y : Int32) {n : Nat} (hn : n ≤ 300) : ∀ (k fu w : Nat) (h : HH), w + k = n + 1 → k < fu → h 21 5 = nI n → P_T_changeFates_3 fz fu x a y (nI w) h ∧ B_T_changeFates_3 fz fu x a y (nI w) h = chF 26 22 x a y w n h := by
  intro k
  induction k with
  | zero =>
    intro fu w h hk hf h5
    obtain ⟨fu, rfl⟩ : ∃ q, fu = q + 1 := ⟨fu - 1, by omega⟩
    have g : h 21 5 < nI w := by rw [h5]; exact nI_lt (by omega) (by omega)
    simp [P_T_changeFates_3, B_T_changeFates_3, g, chF_end (show n < w by omega)]
  | succ k ih =>
    intro fu w h hk hf h5
    obtain ⟨fu, rfl⟩ : ∃ q, fu = q + 1 := ⟨fu - 1, by omega⟩
    have g : ¬ h 21 5 < nI w := by rw [h5]; exact nI_nlt (by omega) (by omega)
    have hx : ix (nI w) = w := nI_clamp (by omega)
    have hv : vp_in (nI w) 301 := vp_in_nI (by omega) (by decide)
    by_cases c : h 22 w = x ∧ h 26 w = a
    · have i1 := ih fu (w + 1) (u2 h 26 w y) (by omega) (by omega) h5
      rw [chF_hit (by decide) (by omega) c.1 c.2] at i1
      simp [P_T_changeFates_3, B_T_changeFates_3, hx, hv, g, c.1, c.2, nI_1, i1]
    · have i0 := ih fu (w + 1) h (by omega) (by omega) h5
      rw [chF_miss c] at i0
      by_cases c1 : h 22 w = x
      · have c2 : ¬ h 26 w = a := fun q => c ⟨c1, q⟩
        simp [P_T_changeFates_3, B_T_changeFates_3, hx, hv, g, c1, c2, nI_1, i0]
      · simp [P_T_changeFates_3, B_T_changeFates_3, hx, hv, g, c1, nI_1, i0]
theorem cv_changeFates (fz : Nat) (hz : 400 ≤ fz) (x a y : Int32) {n : Nat} (hn : n ≤ 300) (h : HH) (h5 : h 21 5 = nI n) : P_T_changeFates fz x a y h ∧ B_T_changeFates fz x a y h = chF 26 22 x a y 1 n h := by
  have q := cf_changeFates fz x a y hn n fz 1 h (by omega) (by omega) h5
  rw [← li1] at q
  exact q
theorem cf_turnInto (fz : Nat) (x a y : Int32) {n : Nat} (hn : n ≤ 300) : ∀ (k fu w : Nat) (h : HH), w + k = n + 1 → k < fu → h 27 0 = nI n → P_M_turnInto_3 fz fu x a y (nI w) h ∧ B_M_turnInto_3 fz fu x a y (nI w) h = chF 32 28 x a y w n h := by
  intro k
  induction k with
  | zero =>
    intro fu w h hk hf h5
    obtain ⟨fu, rfl⟩ : ∃ q, fu = q + 1 := ⟨fu - 1, by omega⟩
    have g : h 27 0 < nI w := by rw [h5]; exact nI_lt (by omega) (by omega)
    simp [P_M_turnInto_3, B_M_turnInto_3, g, chF_end (show n < w by omega)]
  | succ k ih =>
    intro fu w h hk hf h5
    obtain ⟨fu, rfl⟩ : ∃ q, fu = q + 1 := ⟨fu - 1, by omega⟩
    have g : ¬ h 27 0 < nI w := by rw [h5]; exact nI_nlt (by omega) (by omega)
    have hx : ix (nI w) = w := nI_clamp (by omega)
    have hv : vp_in (nI w) 301 := vp_in_nI (by omega) (by decide)
    by_cases c : h 28 w = x ∧ h 32 w = a
    · have i1 := ih fu (w + 1) (u2 h 32 w y) (by omega) (by omega) h5
      rw [chF_hit (by decide) (by omega) c.1 c.2] at i1
      simp [P_M_turnInto_3, B_M_turnInto_3, hx, hv, g, c.1, c.2, nI_1, i1]
    · have i0 := ih fu (w + 1) h (by omega) (by omega) h5
      rw [chF_miss c] at i0
      by_cases c1 : h 28 w = x
      · have c2 : ¬ h 32 w = a := fun q => c ⟨c1, q⟩
        simp [P_M_turnInto_3, B_M_turnInto_3, hx, hv, g, c1, c2, nI_1, i0]
      · simp [P_M_turnInto_3, B_M_turnInto_3, hx, hv, g, c1, nI_1, i0]
theorem cv_turnInto (fz : Nat) (hz : 400 ≤ fz) (x a y : Int32) {n : Nat} (hn : n ≤ 300) (h : HH) (h5 : h 27 0 = nI n) : P_M_turnInto fz x a y h ∧ B_M_turnInto fz x a y h = chF 32 28 x a y 1 n h := by
  have q := cf_turnInto fz x a y hn n fz 1 h (by omega) (by omega) h5
  rw [← li1] at q
  exact q
theorem cf_leastBlock (fz : Nat) (x : Int32) (h : HH) : ∀ (k fu j : Nat), j + k = 32 → k < fu → P_V_leastBlock_2 fz fu x (nI j) h ∧ B_V_leastBlock_2 fz fu x (nI j) h = oi (fnd (bt x) j k) := by
  intro k
  induction k with
  | zero =>
    intro fu j hk hf
    obtain ⟨fu, rfl⟩ : ∃ q, fu = q + 1 := ⟨fu - 1, by omega⟩
    have g : (32 : Int32) ≤ nI j := by rw [li32]; exact nI_le (by omega) (by omega)
    simp [P_V_leastBlock_2, B_V_leastBlock_2, g, fnd, oi]
  | succ k ih =>
    intro fu j hk hf
    obtain ⟨fu, rfl⟩ : ∃ q, fu = q + 1 := ⟨fu - 1, by omega⟩
    have g : ¬ (32 : Int32) ≤ nI j := by rw [li32]; exact nI_ge (by omega) (by omega)
    have i0 := ih fu (j + 1) (by omega) (by omega)
    have hb := B_hasBlock fz x h (show j < 32 by omega)
    cases hj : bt x j with
    | false =>
      rw [hj, bi_f] at hb
      simp [P_V_leastBlock_2, B_V_leastBlock_2, P_V_hasBlock, g, hb, nI_1, i0, fnd, hj]
    | true =>
      rw [hj, bi_t] at hb
      simp [P_V_leastBlock_2, B_V_leastBlock_2, P_V_hasBlock, g, hb, fnd, hj, oi]
theorem cv_leastBlock (fz : Nat) (hz : 400 ≤ fz) (x : Int32) (h : HH) : P_V_leastBlock fz x h ∧ B_V_leastBlock fz x h = oi (fnd (bt x) 0 32) := by
  have q := cf_leastBlock fz x h 32 fz 0 (by omega) (by omega)
  rw [← li0] at q
  exact q
theorem cf_placeFor_48 (fz : Nat) (i : Nat) (y : Int32) (h : HH) : ∀ (k fu : Nat), k ≤ 3 → k < fu → P_E_placeFor_48 fz fu i y (nI k - 1) h ∧ B_E_placeFor_48 fz fu i y (nI k - 1) h = oi (fndD (fun p => decide (B_V_blocksOfExtent fz (h (i + 3) p) h &&& y = 0)) k) := by
  intro k
  induction k with
  | zero =>
    intro fu hk hf
    obtain ⟨fu, rfl⟩ : ∃ q, fu = q + 1 := ⟨fu - 1, by omega⟩
    have g : nI 0 - 1 < 0 := by decide +kernel
    have e : nI 0 - 1 = -1 := by decide +kernel
    rw [e] at g ⊢
    simp [P_E_placeFor_48, B_E_placeFor_48, g, fndD, oi]
  | succ k ih =>
    intro fu hk hf
    obtain ⟨fu, rfl⟩ : ∃ q, fu = q + 1 := ⟨fu - 1, by omega⟩
    have e : nI (k + 1) - 1 = nI k := nI_pred k
    have g : ¬ nI k < 0 := nI_pos (by omega)
    have hx : ix (nI k) = k := nI_clamp (by omega)
    have hv : vp_in (nI k) 3 := vp_in_nI (by omega) (by decide)
    have i0 := ih fu (by omega) (by omega)
    have e2 : nI k + (-1) = nI k - 1 := by rw [Int32.sub_eq_add_neg]
    rw [e]
    by_cases c : B_V_blocksOfExtent fz (h (i + 3) k) h &&& y = 0
    · simp [P_E_placeFor_48, B_E_placeFor_48, P_V_blocksOfExtent, hx, hv, g, c, fndD, oi]
    · simp [P_E_placeFor_48, B_E_placeFor_48, P_V_blocksOfExtent, hx, hv, g, c, e2, i0, fndD]
theorem cf_placeFor_2 (fz : Nat) (hz : 400 ≤ fz) (i : Nat) (x y : Int32) (h : HH) {s : Nat} (hs : s ≤ 3) (hS : h (i + 2) 1 = nI s) : ∀ (k fu p : Nat), p + k = s → k < fu → P_E_placeFor_2 fz fu i x y (nI p) h ∧ B_E_placeFor_2 fz fu i x y (nI p) h = match fnd (fun p => decide (h (i + 3) p = x)) p k with
    | some p => nI p
    | none => if s < 3 then nI s else oi (fndD (fun p => decide (B_V_blocksOfExtent fz (h (i + 3) p) h &&& y = 0)) s) := by
  intro k
  induction k with
  | zero =>
    intro fu p hk hf
    obtain ⟨fu, rfl⟩ : ∃ q, fu = q + 1 := ⟨fu - 1, by omega⟩
    have g : h (i + 2) 1 ≤ nI p := by rw [hS]; exact nI_le (by omega) (by omega)
    by_cases h3 : s < 3
    · have g3 : ¬ (3 : Int32) ≤ h (i + 2) 1 := by rw [hS, li3]; exact nI_ge (by omega) (by omega)
      rw [hS] at g g3
      simp [P_E_placeFor_2, B_E_placeFor_2, hS, g, g3, fnd, h3]
    · have g3 : (3 : Int32) ≤ h (i + 2) 1 := by rw [hS, li3]; exact nI_le (by omega) (by omega)
      have q := cf_placeFor_48 fz i y h s fz (by omega) (by omega)
      rw [hS] at g g3
      simp [P_E_placeFor_2, B_E_placeFor_2, hS, g, g3, fnd, h3, q]
  | succ k ih =>
    intro fu p hk hf
    obtain ⟨fu, rfl⟩ : ∃ q, fu = q + 1 := ⟨fu - 1, by omega⟩
    have g : ¬ h (i + 2) 1 ≤ nI p := by rw [hS]; exact nI_ge (by omega) (by omega)
    have hx : ix (nI p) = p := nI_clamp (by omega)
    have hv : vp_in (nI p) 3 := vp_in_nI (by omega) (by decide)
    have i0 := ih fu (p + 1) (by omega) (by omega)
    by_cases c : h (i + 3) p = x
    · simp [P_E_placeFor_2, B_E_placeFor_2, g, hx, hv, c, fnd]
    · simp [P_E_placeFor_2, B_E_placeFor_2, g, hx, hv, c, fnd, nI_1, i0]
theorem cv_placeFor (fz : Nat) (hz : 400 ≤ fz) (i : Nat) (x y : Int32) (h : HH) {s : Nat} (hs : s ≤ 3) (hS : h (i + 2) 1 = nI s) : P_E_placeFor fz i x y h ∧ B_E_placeFor fz i x y h = match fnd (fun p => decide (h (i + 3) p = x)) 0 s with
    | some p => nI p
    | none => if s < 3 then nI s else oi (fndD (fun p => decide (B_V_blocksOfExtent fz (h (i + 3) p) h &&& y = 0)) s) := by
  have q := cf_placeFor_2 fz hz i x y h hs hS s fz 0 (by omega) (by omega)
  rw [← li0] at q
  exact q
def pfr (i : Nat) (x : Int32) (p : Nat) (h : HH) : HH := fun c k => if c = i + 3 ∧ k ≤ p then (if k = 0 then x else h (i + 3) (k - 1)) else h c k
theorem cf_putInFront_12 (fz : Nat) (i : Nat) (x z : Int32) : ∀ (k fu : Nat) (h : HH), k < 3 → k < fu → P_E_putInFront_12 fz fu i x z (nI k) h ∧ B_E_putInFront_12 fz fu i x z (nI k) h = B_E_putInFront_43 fz i z (pfr i x k h) := by
  intro k
  induction k with
  | zero =>
    intro fu h hk hf
    obtain ⟨fu, rfl⟩ : ∃ q, fu = q + 1 := ⟨fu - 1, by omega⟩
    have g : nI 0 ≤ 0 := by decide +kernel
    have e : u2 h (i + 3) 0 x = pfr i x 0 h := by
      funext c k
      unfold u2 pfr
      by_cases hc : c = i + 3
      · by_cases hk : k = 0
        · simp [hc, hk]
        · have : ¬ k ≤ 0 := by omega
          simp [hc, hk]
      · simp [hc]
    have hv : vp_in (0 : Int32) 3 := by rw [li0]; exact vp_in_nI (by decide) (by decide)
    have h0 : ix (0 : Int32) = 0 := by decide +kernel
    simp [P_E_putInFront_12, B_E_putInFront_12, P_E_putInFront_43, g, h0, hv, e]
  | succ k ih =>
    intro fu h hk hf
    obtain ⟨fu, rfl⟩ : ∃ q, fu = q + 1 := ⟨fu - 1, by omega⟩
    have g : ¬ nI (k + 1) ≤ 0 := nI_nle (by omega) (by omega)
    have hx : ix (nI (k + 1)) = k + 1 := nI_clamp (by omega)
    have hx2 : ix (nI k) = k := nI_clamp (by omega)
    have hv : vp_in (nI (k + 1)) 3 := vp_in_nI (by omega) (by decide)
    have hv2 : vp_in (nI k) 3 := vp_in_nI (by omega) (by decide)
    have e : pfr i x k (u2 h (i + 3) (k + 1) (h (i + 3) k)) = pfr i x (k + 1) h := by
      funext c j
      unfold u2 pfr
      by_cases hc : c = i + 3
      · by_cases h1 : j ≤ k
        · have h2 : j ≤ k + 1 := by omega
          have h3 : ¬ j - 1 = k + 1 := by omega
          simp [hc, h1, h2, h3]
        · by_cases h2 : j = k + 1
          · simp [hc, h2]
          · have h3 : ¬ j ≤ k + 1 := by omega
            simp [hc, h1, h2, h3]
      · simp [hc]
    have i0 := ih fu (u2 h (i + 3) (k + 1) (h (i + 3) k)) (by omega) (by omega)
    rw [e] at i0
    simp [P_E_putInFront_12, B_E_putInFront_12, g, hx, nI_pred, pk_m1, hx2, hv, hv2, i0]
theorem cv_putInFront (fz : Nat) (hz : 400 ≤ fz) (i : Nat) (x : Int32) (h : HH) {p : Nat} (hp : p < 3) : P_E_putInFront fz i x (nI p) h ∧ B_E_putInFront fz i x (nI p) h = B_E_putInFront_43 fz i (nI p) (pfr i x p h) := by
  have g0 : ¬ nI p < 0 := nI_pos (by omega)
  have g1 : nI p < (3 : Int32) := by rw [li3]; exact nI_lt (by omega) (by omega)
  have q := cf_putInFront_12 fz i x (nI p) p fz h hp (by omega)
  simp [P_E_putInFront, B_E_putInFront, g0, g1, q]
theorem cf_allBlocks (fz : Nat) (i : Nat) (h : HH) {s : Nat} (hs : s ≤ 3) (hS : h (i + 2) 1 = nI s) (he : ∀ p, p < s → ∃ e, e < 8 ∧ h (i + 3) p = nI e) : ∀ (k fu p : Nat) (acc : Int32), p + k = s → k < fu → P_E_allBlocks_4 fz fu i acc (nI p) h ∧ ∀ j, j < 32 → (bt (B_E_allBlocks_4 fz fu i acc (nI p) h) j = true ↔ bt acc j = true ∨ ∃ r, p ≤ r ∧ r < s ∧ h (i + 3) r = nI (j / 4)) := by
  intro k
  induction k with
  | zero =>
    intro fu p acc hk hf
    obtain ⟨fu, rfl⟩ : ∃ q, fu = q + 1 := ⟨fu - 1, by omega⟩
    have g : h (i + 2) 1 ≤ nI p := by rw [hS]; exact nI_le (by omega) (by omega)
    refine ⟨by simp [P_E_allBlocks_4, g], fun j hj => ?_⟩
    simp only [B_E_allBlocks_4, g, if_true]
    exact ⟨Or.inl, fun q => q.elim id (fun ⟨r, a, b, _⟩ => by omega)⟩
  | succ k ih =>
    intro fu p acc hk hf
    obtain ⟨fu, rfl⟩ : ∃ q, fu = q + 1 := ⟨fu - 1, by omega⟩
    have g : ¬ h (i + 2) 1 ≤ nI p := by rw [hS]; exact nI_ge (by omega) (by omega)
    have hx : ix (nI p) = p := nI_clamp (by omega)
    have hv : vp_in (nI p) 3 := vp_in_nI (by omega) (by decide)
    obtain ⟨e, he1, he2⟩ := he p (by omega)
    have i1 := ih fu (p + 1) (acc ||| B_V_blocksOfExtent fz (h (i + 3) p) h) (by omega) (by omega)
    refine ⟨by simp [P_E_allBlocks_4, P_V_blocksOfExtent, hx, hv, g, nI_1, i1.1], fun j hj => ?_⟩
    have ee : B_E_allBlocks_4 fz (fu + 1) i acc (nI p) h = B_E_allBlocks_4 fz fu i (acc ||| B_V_blocksOfExtent fz (h (i + 3) p) h) (nI (p + 1)) h := by simp [B_E_allBlocks_4, hx, g, nI_1]
    have eb : bt (B_V_blocksOfExtent fz (h (i + 3) p) h) j = decide (j / 4 = e) := by
      rw [B_V_blocksOfExtent, he2]
      exact bt_ext15 e he1 j hj
    rw [ee, i1.2 j hj, b_or, eb]
    constructor
    · rintro (q | ⟨r, q1, q2, q3⟩)
      · rcases Bool.or_eq_true_iff.mp q with q | q
        · exact Or.inl q
        · have : j / 4 = e := by simpa using q
          exact Or.inr ⟨p, Nat.le_refl _, by omega, by rw [he2, this]⟩
      · exact Or.inr ⟨r, by omega, q2, q3⟩
    · rintro (q | ⟨r, q1, q2, q3⟩)
      · exact Or.inl (by rw [q]; rfl)
      · by_cases er : r = p
        · rw [er, he2] at q3
          have : e = j / 4 := (nI_eq (by omega) (by omega)).mp q3
          exact Or.inl (by simp [this])
        · exact Or.inr ⟨r, by omega, q2, q3⟩
theorem cv_allBlocks (fz : Nat) (hz : 400 ≤ fz) (i : Nat) (h : HH) {s : Nat} (hs : s ≤ 3) (hS : h (i + 2) 1 = nI s) (he : ∀ p, p < s → ∃ e, e < 8 ∧ h (i + 3) p = nI e) : P_E_allBlocks fz i h ∧ ∀ j, j < 32 → (bt (B_E_allBlocks fz i h) j = true ↔ ∃ r, r < s ∧ h (i + 3) r = nI (j / 4)) := by
  have q := cf_allBlocks fz i h hs hS he s fz 0 0 (by omega) (by omega)
  rw [← li0] at q
  refine ⟨q.1, fun j hj => ?_⟩
  have q2 := q.2 j hj
  rw [b_0] at q2
  refine Iff.trans q2 ⟨fun r => r.elim (fun r => by cases r) (fun ⟨r, _, b⟩ => ⟨r, b⟩), fun ⟨r, b⟩ => Or.inr ⟨r, Nat.zero_le _, b⟩⟩
def wrm (i k s : Nat) (h : HH) : HH := fun c j => if c = i + 9 ∧ k ≤ j ∧ j + 1 < s then h (i + 9) (j + 1) else if c = i + 8 ∧ j = 1 then nI (s - 1) else h c j
theorem cf_remove (fz : Nat) (i : Nat) {s : Nat} (hs : s ≤ 8) : ∀ (r fu k : Nat) (h : HH), k + r + 1 = s → r < fu → h (i + 8) 1 = nI s → P_L_remove_15 fz fu i (nI k) h ∧ B_L_remove_15 fz fu i (nI k) h = wrm i k s h := by
  intro r
  induction r with
  | zero =>
    intro fu k h hk hf h8
    obtain ⟨fu, rfl⟩ : ∃ q, fu = q + 1 := ⟨fu - 1, by omega⟩
    have e1 : nI s - 1 = nI (s - 1) := by rw [li1]; exact pk_sub (by omega)
    have g : nI (s - 1) ≤ nI k := nI_le (by omega) (by omega)
    have e : u2 h (i + 8) 1 (nI (s - 1)) = wrm i k s h := by
      funext c j
      unfold u2 wrm
      have : ¬ (c = i + 9 ∧ k ≤ j ∧ j + 1 < s) := by omega
      rw [if_neg this]
    simp [P_L_remove_15, B_L_remove_15, h8, e1, g, e]
  | succ r ih =>
    intro fu k h hk hf h8
    obtain ⟨fu, rfl⟩ : ∃ q, fu = q + 1 := ⟨fu - 1, by omega⟩
    have e1 : nI s - 1 = nI (s - 1) := by rw [li1]; exact pk_sub (by omega)
    have g : ¬ nI (s - 1) ≤ nI k := nI_ge (by omega) (by omega)
    have hx : ix (nI k) = k := nI_clamp (by omega)
    have hx1 : ix (nI (k + 1)) = k + 1 := nI_clamp (by omega)
    have hv : vp_in (nI k) 8 := vp_in_nI (by omega) (by decide)
    have hv1 : vp_in (nI (k + 1)) 8 := vp_in_nI (by omega) (by decide)
    have i0 := ih fu (k + 1) (u2 h (i + 9) k (h (i + 9) (k + 1))) (by omega) (by omega) (by rw [u2_i h k _ (by omega)]; exact h8)
    have e : wrm i (k + 1) s (u2 h (i + 9) k (h (i + 9) (k + 1))) = wrm i k s h := by
      funext c j
      unfold u2 wrm
      by_cases hc : c = i + 9
      · subst hc
        by_cases h1 : k + 1 ≤ j ∧ j + 1 < s
        · have h2 : k ≤ j ∧ j + 1 < s := by omega
          have h3 : ¬ j + 1 = k := by omega
          simp [h1, h2, h3]
        · by_cases h2 : j = k
          · subst h2
            have h3 : j + 1 < s := by omega
            simp [h3]
          · have h3 : ¬ (k ≤ j ∧ j + 1 < s) := by omega
            simp [h1, h2, h3]
      · simp [hc]
    rw [e] at i0
    simp [P_L_remove_15, B_L_remove_15, h8, e1, g, nI_1, hx, hx1, hv, hv1, i0]
theorem cv_remove (fz : Nat) (hz : 400 ≤ fz) (i : Nat) {s k : Nat} (hs : s ≤ 8) (h : HH) (h8 : h (i + 8) 1 = nI s) (hk : k < s) : P_L_remove fz i (nI k) h ∧ B_L_remove fz i (nI k) h = wrm i k s h := by
  have g0 : ¬ nI k < 0 := nI_pos (by omega)
  have g1 : nI k < h (i + 8) 1 := by rw [h8]; exact nI_lt hk (by omega)
  have q := cf_remove fz i hs (s - 1 - k) fz k h (by omega) (by omega) h8
  simp [P_L_remove, B_L_remove, g0, g1, q]
