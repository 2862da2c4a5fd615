theorem cf_pending (fz : Nat) (x f t : Int32) (h : HH) {n : Nat} (hn : n ≤ 300) (h5 : h 27 0 = nI n) : ∀ (k fu w acc : Nat), w + k = n + 1 → k < fu → P_M_pending_6 fz fu x f t (nI acc) (nI w) h ∧ B_M_pending_6 fz fu x f t (nI acc) (nI w) h = nI (acc + cn (fun i => decide (h 32 i = 1 ∧ h 28 i = x ∧ ¬ h 29 i < f ∧ ¬ t < h 29 i)) w k) := by
  intro k
  induction k with
  | zero =>
    intro fu w acc hk hf
    obtain ⟨fu, rfl⟩ : ∃ q, fu = q + 1 := ⟨fu - 1, by omega⟩
    have g : h 27 0 < nI w := by rw [h5]; exact nI_lt (by omega) (by omega)
    simp [P_M_pending_6, B_M_pending_6, g, cn]
  | succ k ih =>
    intro fu w acc hk hf
    obtain ⟨fu, rfl⟩ : ∃ q, fu = q + 1 := ⟨fu - 1, by omega⟩
    have g : ¬ h 27 0 < nI w := by rw [h5]; exact nI_nlt (by omega) (by omega)
    have hx : ix (nI w) = w := nI_clamp (by omega)
    have hv : vp_in (nI w) 301 := vp_in_nI (by omega) (by decide)
    have i0 := ih fu (w + 1) acc (by omega) (by omega)
    have i1 := ih fu (w + 1) (acc + 1) (by omega) (by omega)
    by_cases c1 : h 32 w = 1
    · by_cases c2 : h 28 w = x
      · by_cases c3 : h 29 w < f
        · simp only [P_M_pending_6, B_M_pending_6, hx, hv, g, c1, c2, c3, nI_1, i0, cn, if_true, if_false, not_true_eq_false, not_false_eq_true, true_implies, false_implies, and_true, true_and, and_self, and_false, false_and, decide_false, decide_true, cond_false, cond_true, Nat.zero_add]
        · by_cases c4 : t < h 29 w
          · simp only [P_M_pending_6, B_M_pending_6, hx, hv, g, c1, c2, c3, c4, nI_1, i0, cn, if_true, if_false, not_true_eq_false, not_false_eq_true, true_implies, false_implies, and_true, true_and, and_self, and_false, false_and, decide_false, decide_true, cond_false, cond_true, Nat.zero_add]
          · simp only [P_M_pending_6, B_M_pending_6, hx, hv, g, c1, c2, c3, c4, nI_1, i1, cn, if_true, if_false, not_true_eq_false, not_false_eq_true, true_implies, false_implies, and_true, true_and, and_self, and_false, false_and, decide_false, decide_true, cond_false, cond_true, Nat.add_assoc]
      · simp only [P_M_pending_6, B_M_pending_6, hx, hv, g, c1, c2, nI_1, i0, cn, if_true, if_false, not_true_eq_false, not_false_eq_true, true_implies, false_implies, and_true, true_and, and_self, and_false, false_and, decide_false, decide_true, cond_false, cond_true, Nat.zero_add]
    · simp only [P_M_pending_6, B_M_pending_6, hx, hv, g, c1, nI_1, i0, cn, if_true, if_false, not_true_eq_false, not_false_eq_true, true_implies, false_implies, and_true, true_and, and_self, and_false, false_and, decide_false, decide_true, cond_false, cond_true, Nat.zero_add]
theorem cv_pending (fz : Nat) (hz : 400 ≤ fz) (x f t : Int32) (h : HH) {n : Nat} (hn : n ≤ 300) (h5 : h 27 0 = nI n) : P_M_pending fz x f t h ∧ B_M_pending fz x f t h = nI (cn (fun i => decide (h 32 i = 1 ∧ h 28 i = x ∧ ¬ h 29 i < f ∧ ¬ t < h 29 i)) 1 n) := by
  have q := cf_pending fz x f t h hn h5 n fz 1 0 (by omega) (by omega)
  rw [← li0, ← li1, Nat.zero_add] at q
  exact q
theorem x8 (b e : Nat) : (8 : Int32) * nI b + nI e = nI (8 * b + e) := by rw [li8, pk_mul, nI_add]
theorem x32 (b e : Nat) : (32 : Int32) * nI b + nI e = nI (32 * b + e) := by rw [li32, pk_mul, nI_add]
theorem x64 (b e : Nat) : (64 : Int32) * nI b + nI e = nI (64 * b + e) := by rw [li64, pk_mul, nI_add]
theorem x64' (b : Nat) : (64 : Int32) * nI b = nI (64 * b) := by rw [li64, pk_mul]
theorem x1m {b : Nat} (hb : b < 2) : (1 : Int32) - nI b = nI (1 - b) := by rw [li1]; exact pk_sub (by omega)
theorem x4d {a : Nat} (ha : a < 100) : nI a / (4 : Int32) = nI (a / 4) := by rw [li4]; exact pk_div (by omega) (by decide) (by decide)
theorem cf_inLog (fz : Nat) {b : Nat} (hb : b < 2) (h : HH) : ∀ (k fu e acc : Nat), e + k = 8 → k < fu → P_M_inLog_4 fz fu (nI b) (nI acc) (nI e) h ∧ B_M_inLog_4 fz fu (nI b) (nI acc) (nI e) h = nI (acc + cn (fun i => !decide (h 36 (8 * b + i) = 0)) e k) := by
  intro k
  induction k with
  | zero =>
    intro fu e acc hk hf
    obtain ⟨fu, rfl⟩ : ∃ q, fu = q + 1 := ⟨fu - 1, by omega⟩
    have g : (8 : Int32) ≤ nI e := by rw [li8]; exact nI_le (by omega) (by omega)
    simp [P_M_inLog_4, B_M_inLog_4, g, cn]
  | succ k ih =>
    intro fu e acc hk hf
    obtain ⟨fu, rfl⟩ : ∃ q, fu = q + 1 := ⟨fu - 1, by omega⟩
    have g : ¬ (8 : Int32) ≤ nI e := by rw [li8]; exact nI_ge (by omega) (by omega)
    have hx : ix (nI (8 * b + e)) = 8 * b + e := nI_clamp (by omega)
    have hv : vp_in (nI (8 * b + e)) 16 := vp_in_nI (by omega) (by decide)
    have i0 := ih fu (e + 1) acc (by omega) (by omega)
    have i1 := ih fu (e + 1) (acc + 1) (by omega) (by omega)
    by_cases c1 : h 36 (8 * b + e) = 0
    · simp [P_M_inLog_4, B_M_inLog_4, x8, hx, hv, g, c1, nI_1, i0, cn]
    · simp [P_M_inLog_4, B_M_inLog_4, x8, hx, hv, g, c1, nI_1, i1, cn, Nat.add_assoc]
theorem cv_inLog (fz : Nat) (hz : 400 ≤ fz) {b : Nat} (hb : b < 2) (h : HH) : P_M_inLog fz (nI b) h ∧ B_M_inLog fz (nI b) h = nI (cn (fun i => !decide (h 36 (8 * b + i) = 0)) 0 8) := by
  have q := cf_inLog fz hb h 8 fz 0 0 (by omega) (by omega)
  rw [Nat.zero_add, ← li0] at q
  exact q
theorem cf_nothingInMap (fz : Nat) {b : Nat} (hb : b < 2) (h : HH) : ∀ (k fu j : Nat) (a : Bool), j + k = 32 → k < fu → P_M_nothingInMap_4 fz fu (nI b) (bi a) (nI j) h ∧ (B_M_nothingInMap_4 fz fu (nI b) (bi a) (nI j) h = 0 ↔ ¬ (a = true ∧ ∀ i, j ≤ i → i < 32 → h 35 (32 * b + i) = 0)) := by
  intro k
  induction k with
  | zero =>
    intro fu j a hk hf
    obtain ⟨fu, rfl⟩ : ∃ q, fu = q + 1 := ⟨fu - 1, by omega⟩
    have g : (32 : Int32) ≤ nI j := by rw [li32]; exact nI_le (by omega) (by omega)
    refine ⟨by simp [P_M_nothingInMap_4, g, bi_nar], ?_⟩
    simp only [B_M_nothingInMap_4, g, if_true, bi_0]
    constructor
    · intro q r
      rw [q] at r
      cases r.1
    · intro q
      cases a with
      | false => rfl
      | true => exact absurd ⟨rfl, fun i h1 h2 => by omega⟩ q
  | succ k ih =>
    intro fu j a hk hf
    obtain ⟨fu, rfl⟩ : ∃ q, fu = q + 1 := ⟨fu - 1, by omega⟩
    have g : ¬ (32 : Int32) ≤ nI j := by rw [li32]; exact nI_ge (by omega) (by omega)
    have hx : ix (nI (32 * b + j)) = 32 * b + j := nI_clamp (by omega)
    have hv : vp_in (nI (32 * b + j)) 64 := vp_in_nI (by omega) (by decide)
    have i0 := ih fu (j + 1) false (by omega) (by omega)
    have i1 := ih fu (j + 1) true (by omega) (by omega)
    rw [bi_f] at i0
    rw [bi_t] at i1
    cases a with
    | false =>
      have e : bi false = 0 := rfl
      refine ⟨by simp [P_M_nothingInMap_4, g, e, nI_1, i0.1], ?_⟩
      have ee : B_M_nothingInMap_4 fz (fu + 1) (nI b) (bi false) (nI j) h = B_M_nothingInMap_4 fz fu (nI b) 0 (nI (j + 1)) h := by simp [B_M_nothingInMap_4, g, e, nI_1]
      rw [ee, i0.2]
      simp
    | true =>
      have e : bi true = 1 := rfl
      have e1 : ¬ (1 : Int32) = 0 := by decide
      by_cases c1 : h 35 (32 * b + j) = 0
      · refine ⟨by simp [P_M_nothingInMap_4, g, e, nI_1, x32, hx, hv, c1, i1.1], ?_⟩
        have ee : B_M_nothingInMap_4 fz (fu + 1) (nI b) (bi true) (nI j) h = B_M_nothingInMap_4 fz fu (nI b) 1 (nI (j + 1)) h := by simp [B_M_nothingInMap_4, g, e, nI_1, x32, hx, c1]
        rw [ee, i1.2]
        constructor
        · intro q r
          exact q ⟨rfl, fun i h1 h2 => r.2 i (by omega) h2⟩
        · intro q r
          refine q ⟨rfl, fun i h1 h2 => ?_⟩
          by_cases ei : i = j
          · rw [ei]; exact c1
          · exact r.2 i (by omega) h2
      · refine ⟨by simp [P_M_nothingInMap_4, g, e, nI_1, x32, hx, hv, c1, i0.1], ?_⟩
        have ee : B_M_nothingInMap_4 fz (fu + 1) (nI b) (bi true) (nI j) h = B_M_nothingInMap_4 fz fu (nI b) 0 (nI (j + 1)) h := by simp [B_M_nothingInMap_4, g, e, nI_1, x32, hx, c1]
        rw [ee, i0.2]
        constructor
        · intro q r
          exact c1 (r.2 j (Nat.le_refl _) (by omega))
        · intro q r
          cases r.1
theorem cv_nothingInMap (fz : Nat) (hz : 400 ≤ fz) {b : Nat} (hb : b < 2) (h : HH) : P_M_nothingInMap fz (nI b) h ∧ (B_M_nothingInMap fz (nI b) h = 0 ↔ ¬ ∀ i, i < 32 → h 35 (32 * b + i) = 0) := by
  have q := cf_nothingInMap fz hb h 32 fz 0 true (by omega) (by omega)
  rw [bi_t, ← li0] at q
  refine ⟨q.1, Iff.trans q.2 (not_congr ⟨fun r i hi => r.2 i (Nat.zero_le _) hi, fun r => ⟨rfl, fun i _ hi => r i hi⟩⟩)⟩
theorem cf_onTheWay (fz : Nat) {b c : Nat} (hb : b < 2) (x y : Int32) (h : HH) (hc : c ≤ 25) (h5 : h 51 b = nI c) : ∀ (k fu i acc : Nat), i + k = c → k < fu → P_M_onTheWay_9 fz fu (nI b) x y (nI acc) (nI (64 * b + i)) h ∧ B_M_onTheWay_9 fz fu (nI b) x y (nI acc) (nI (64 * b + i)) h = nI (acc + cn (fun j => decide (h 48 (64 * b + j) = x ∧ (y < 0 ∨ h 49 (64 * b + j) = y))) i k) := by
  intro k
  induction k with
  | zero =>
    intro fu i acc hk hf
    obtain ⟨fu, rfl⟩ : ∃ q, fu = q + 1 := ⟨fu - 1, by omega⟩
    have hxb : ix (nI b) = b := nI_clamp (by omega)
    have hvb : vp_in (nI b) 2 := vp_in_nI hb (by decide)
    have g : nI (64 * b + c) ≤ nI (64 * b + i) := nI_le (by omega) (by omega)
    simp [P_M_onTheWay_9, B_M_onTheWay_9, hxb, hvb, h5, x64, g, cn]
  | succ k ih =>
    intro fu i acc hk hf
    obtain ⟨fu, rfl⟩ : ∃ q, fu = q + 1 := ⟨fu - 1, by omega⟩
    have hxb : ix (nI b) = b := nI_clamp (by omega)
    have hvb : vp_in (nI b) 2 := vp_in_nI hb (by decide)
    have g : ¬ nI (64 * b + c) ≤ nI (64 * b + i) := nI_ge (by omega) (by omega)
    have hx : ix (nI (64 * b + i)) = 64 * b + i := nI_clamp (by omega)
    have hv : vp_in (nI (64 * b + i)) 128 := vp_in_nI (by omega) (by decide)
    have i0 := ih fu (i + 1) acc (by omega) (by omega)
    have i1 := ih fu (i + 1) (acc + 1) (by omega) (by omega)
    rw [← Nat.add_assoc] at i0 i1
    by_cases c1 : h 48 (64 * b + i) = x
    · by_cases c2 : y < 0
      · simp [P_M_onTheWay_9, B_M_onTheWay_9, hxb, hvb, h5, x64, g, hx, hv, c1, c2, nI_1, i1, cn, Nat.add_assoc acc 1]
      · by_cases c3 : h 49 (64 * b + i) = y
        · simp [P_M_onTheWay_9, B_M_onTheWay_9, hxb, hvb, h5, x64, g, hx, hv, c1, c2, c3, nI_1, i1, cn, Nat.add_assoc acc 1]
        · simp [P_M_onTheWay_9, B_M_onTheWay_9, hxb, hvb, h5, x64, g, hx, hv, c1, c2, c3, nI_1, i0, cn]
    · simp [P_M_onTheWay_9, B_M_onTheWay_9, hxb, hvb, h5, x64, g, hx, hv, c1, nI_1, i0, cn]
theorem cv_onTheWay (fz : Nat) (hz : 400 ≤ fz) {b c : Nat} (hb : b < 2) (x y : Int32) (h : HH) (hc : c ≤ 25) (h5 : h 51 b = nI c) : P_M_onTheWay fz (nI b) x y h ∧ B_M_onTheWay fz (nI b) x y h = nI (cn (fun j => decide (h 48 (64 * b + j) = x ∧ (y < 0 ∨ h 49 (64 * b + j) = y))) 0 c) := by
  have q := cf_onTheWay fz hb x y h hc h5 c fz 0 0 (by omega) (by omega)
  rw [Nat.add_zero, Nat.zero_add, ← li0, ← x64'] at q
  exact q
def rs (c0 a e : Nat) (f : Nat → Int32) (h : HH) : HH := fun c k => if c = c0 ∧ a ≤ k ∧ k < e then f k else h c k
theorem rs_end {c0 a e : Nat} {f : Nat → Int32} {h : HH} (he : e ≤ a) : rs c0 a e f h = h := by
  funext c k
  unfold rs
  rw [if_neg (fun q => by omega)]
theorem rs_step {c0 a e : Nat} {f : Nat → Int32} {h : HH} (he : a < e) {y : Int32} (hy : f a = y) : rs c0 (a + 1) e f (u2 h c0 a y) = rs c0 a e f h := by
  funext c k
  unfold rs u2
  by_cases hc : c = c0
  · by_cases hk : k = a
    · subst hc
      subst hk
      simp [he, hy]
    · have e1 : (a + 1 ≤ k ∧ k < e) ↔ (a ≤ k ∧ k < e) := by omega
      simp [hc, hk, e1]
  · simp [hc]
theorem rs_skip {c0 a e : Nat} {f : Nat → Int32} {h : HH} (hf : f a = h c0 a) : rs c0 (a + 1) e f h = rs c0 a e f h := by
  funext c k
  unfold rs
  by_cases hk : k = a
  · subst hk
    by_cases hc : c = c0
    · subst hc
      by_cases he : k < e
      · simp [he, hf]
      · simp [he]
    · simp [hc]
  · have e1 : (a + 1 ≤ k ∧ k < e) ↔ (a ≤ k ∧ k < e) := by omega
    simp only [e1]
theorem rs_row {c0 a e : Nat} {f : Nat → Int32} {h : HH} {c : Nat} (hc : c ≠ c0) : rs c0 a e f h c = h c := by
  funext k
  unfold rs
  rw [if_neg (fun q => hc q.1)]
theorem cf_finish (fz : Nat) {b : Nat} (hb : b < 2) (x : Int32) : ∀ (k fu j : Nat) (h : HH), j + k = 32 → k < fu → P_M_arrive_139 fz fu (nI b) x (nI j) h ∧ B_M_arrive_139 fz fu (nI b) x (nI j) h = u2 (u2 (rs 35 (32 * b + j) (32 * b + 32) (fun _ => 0) h) 38 b x) 39 b 0 := by
  intro k
  induction k with
  | zero =>
    intro fu j h hk hf
    obtain ⟨fu, rfl⟩ : ∃ q, fu = q + 1 := ⟨fu - 1, by omega⟩
    have g : (32 : Int32) ≤ nI j := by rw [li32]; exact nI_le (by omega) (by omega)
    have hxb : ix (nI b) = b := nI_clamp (by omega)
    have hvb : vp_in (nI b) 2 := vp_in_nI hb (by decide)
    simp [P_M_arrive_139, B_M_arrive_139, g, hxb, hvb, rs_end (show 32 * b + 32 ≤ 32 * b + j by omega)]
  | succ k ih =>
    intro fu j h hk hf
    obtain ⟨fu, rfl⟩ : ∃ q, fu = q + 1 := ⟨fu - 1, by omega⟩
    have g : ¬ (32 : Int32) ≤ nI j := by rw [li32]; exact nI_ge (by omega) (by omega)
    have hx : ix (nI (32 * b + j)) = 32 * b + j := nI_clamp (by omega)
    have hv : vp_in (nI (32 * b + j)) 64 := vp_in_nI (by omega) (by decide)
    have i0 := ih fu (j + 1) (u2 h 35 (32 * b + j) 0) (by omega) (by omega)
    rw [← Nat.add_assoc, rs_step (by omega) rfl] at i0
    simp [P_M_arrive_139, B_M_arrive_139, g, x32, hx, hv, nI_1, i0]
theorem cf_discard (fz : Nat) {b : Nat} (hb : b < 2) : ∀ (k fu j : Nat) (h : HH), j + k = 32 → k < fu → P_M_turnInto fz (nI b) 3 4 (rs 35 (32 * b + j) (32 * b + 32) (fun _ => 0) h) → P_M_discard_75 fz fu (nI b) (nI j) h ∧ B_M_discard_75 fz fu (nI b) (nI j) h = (1, B_M_turnInto fz (nI b) 3 4 (rs 35 (32 * b + j) (32 * b + 32) (fun _ => 0) h)) := by
  intro k
  induction k with
  | zero =>
    intro fu j h hk hf hp
    obtain ⟨fu, rfl⟩ : ∃ q, fu = q + 1 := ⟨fu - 1, by omega⟩
    have g : (32 : Int32) ≤ nI j := by rw [li32]; exact nI_le (by omega) (by omega)
    rw [rs_end (show 32 * b + 32 ≤ 32 * b + j by omega)] at hp ⊢
    simp [P_M_discard_75, B_M_discard_75, g, hp]
  | succ k ih =>
    intro fu j h hk hf hp
    obtain ⟨fu, rfl⟩ : ∃ q, fu = q + 1 := ⟨fu - 1, by omega⟩
    have g : ¬ (32 : Int32) ≤ nI j := by rw [li32]; exact nI_ge (by omega) (by omega)
    have hx : ix (nI (32 * b + j)) = 32 * b + j := nI_clamp (by omega)
    have hv : vp_in (nI (32 * b + j)) 64 := vp_in_nI (by omega) (by decide)
    have e : rs 35 (32 * b + (j + 1)) (32 * b + 32) (fun _ => 0) (u2 h 35 (32 * b + j) 0) = rs 35 (32 * b + j) (32 * b + 32) (fun _ => 0) h := by
      rw [← Nat.add_assoc]
      exact rs_step (by omega) rfl
    have i0 := ih fu (j + 1) (u2 h 35 (32 * b + j) 0) (by omega) (by omega) (by rw [e]; exact hp)
    rw [e] at i0
    simp [P_M_discard_75, B_M_discard_75, g, x32, hx, hv, nI_1, i0]
theorem cf_restart (fz : Nat) {b : Nat} (hb : b < 2) (h0 : HH) : ∀ (k fu j : Nat) (h : HH), j + k = 32 → k < fu → (∀ i, h 41 i = h0 41 i) → (∀ i, h 36 i = h0 36 i) → (∀ i, 32 * b + j ≤ i → h 35 i = h0 35 i) → P_M_restart_27 fz fu (nI b) (nI j) h ∧ B_M_restart_27 fz fu (nI b) (nI j) h = (1, rs 35 (32 * b + j) (32 * b + 32) (fun i => if ¬ h0 41 b = 0 ∧ ¬ h0 36 (8 * b + (i - 32 * b) / 4) = 0 then 1 else h0 35 i) h) := by
  intro k
  induction k with
  | zero =>
    intro fu j h hk hf h41 h36 h35
    obtain ⟨fu, rfl⟩ : ∃ q, fu = q + 1 := ⟨fu - 1, by omega⟩
    have g : (32 : Int32) ≤ nI j := by rw [li32]; exact nI_le (by omega) (by omega)
    simp [P_M_restart_27, B_M_restart_27, g, rs_end (show 32 * b + 32 ≤ 32 * b + j by omega)]
  | succ k ih =>
    intro fu j h hk hf h41 h36 h35
    obtain ⟨fu, rfl⟩ : ∃ q, fu = q + 1 := ⟨fu - 1, by omega⟩
    have g : ¬ (32 : Int32) ≤ nI j := by rw [li32]; exact nI_ge (by omega) (by omega)
    have hxb : ix (nI b) = b := nI_clamp (by omega)
    have hvb : vp_in (nI b) 2 := vp_in_nI hb (by decide)
    have hx : ix (nI (32 * b + j)) = 32 * b + j := nI_clamp (by omega)
    have hv : vp_in (nI (32 * b + j)) 64 := vp_in_nI (by omega) (by decide)
    have hx8 : ix (nI (8 * b + j / 4)) = 8 * b + j / 4 := nI_clamp (by omega)
    have hv8 : vp_in (nI (8 * b + j / 4)) 16 := vp_in_nI (by omega) (by decide)
    have e4 : nI j / (4 : Int32) = nI (j / 4) := x4d (by omega)
    have ej : 32 * b + j - 32 * b = j := by omega
    by_cases c : ¬ h 41 b = 0 ∧ ¬ h 36 (8 * b + j / 4) = 0
    · have i1 := ih fu (j + 1) (u2 h 35 (32 * b + j) 1) (by omega) (by omega) h41 h36 (fun i hi => by
        rw [u2_k h 1 35 (show i ≠ 32 * b + j by omega)]
        exact h35 i (by omega))
      rw [← Nat.add_assoc, rs_step (by omega) (by simp only [ej, ← h41, ← h36, if_pos c])] at i1
      simp [P_M_restart_27, B_M_restart_27, g, x32, x8, e4, hx, hv, hx8, hv8, hxb, hvb, nI_1, c.1, c.2, i1]
    · have i0 := ih fu (j + 1) h (by omega) (by omega) h41 h36 (fun i hi => h35 i (by omega))
      rw [← Nat.add_assoc, rs_skip (by simp only [ej, ← h41, ← h36, if_neg c]; exact (h35 _ (Nat.le_refl _)).symm)] at i0
      by_cases c1 : h 41 b = 0
      · simp [P_M_restart_27, B_M_restart_27, g, hxb, hvb, nI_1, c1, i0]
      · have c2 : h 36 (8 * b + j / 4) = 0 := Classical.byContradiction (fun q => c ⟨c1, q⟩)
        simp [P_M_restart_27, B_M_restart_27, g, x8, e4, hx8, hv8, hxb, hvb, nI_1, c1, c2, i0]
theorem cf_connect (fz : Nat) {s t : Nat} (hs : s < 2) (ht : t < 2) (hst : s ≠ t) (x : Int32) (h0 : HH) : ∀ (k fu j : Nat) (h : HH), j + k = 32 → k < fu → (∀ i, i < 32 → h 35 (32 * t + i) = h0 35 (32 * t + i)) → (∀ i, j ≤ i → i < 32 → h 35 (32 * s + i) = h0 35 (32 * s + i)) → P_M_connect_232 fz (nI s) (u2 (u2 (u2 (rs 35 (32 * s + j) (32 * s + 32) (fun i => bi (!(decide (x = 0) && decide (h0 35 i = 0) && decide (h0 35 (32 * t + (i - 32 * s)) = 0)))) h) 44 s 1) 45 t 1) 40 t 1) → P_M_connect_147 fz fu (nI s) (nI t) x (nI j) h ∧ B_M_connect_147 fz fu (nI s) (nI t) x (nI j) h = B_M_connect_232 fz (nI s) (u2 (u2 (u2 (rs 35 (32 * s + j) (32 * s + 32) (fun i => bi (!(decide (x = 0) && decide (h0 35 i = 0) && decide (h0 35 (32 * t + (i - 32 * s)) = 0)))) h) 44 s 1) 45 t 1) 40 t 1) := by
  intro k
  induction k with
  | zero =>
    intro fu j h hk hf ht35 hs35 hp
    obtain ⟨fu, rfl⟩ : ∃ q, fu = q + 1 := ⟨fu - 1, by omega⟩
    have g : (32 : Int32) ≤ nI j := by rw [li32]; exact nI_le (by omega) (by omega)
    have hxs : ix (nI s) = s := nI_clamp (by omega)
    have hvs : vp_in (nI s) 2 := vp_in_nI hs (by decide)
    have hxt : ix (nI t) = t := nI_clamp (by omega)
    have hvt : vp_in (nI t) 2 := vp_in_nI ht (by decide)
    rw [rs_end (show 32 * s + 32 ≤ 32 * s + j by omega)] at hp ⊢
    simp [P_M_connect_147, B_M_connect_147, g, hxs, hvs, hxt, hvt, hp]
  | succ k ih =>
    intro fu j h hk hf ht35 hs35 hp
    obtain ⟨fu, rfl⟩ : ∃ q, fu = q + 1 := ⟨fu - 1, by omega⟩
    have g : ¬ (32 : Int32) ≤ nI j := by rw [li32]; exact nI_ge (by omega) (by omega)
    have hx : ix (nI (32 * s + j)) = 32 * s + j := nI_clamp (by omega)
    have hv : vp_in (nI (32 * s + j)) 64 := vp_in_nI (by omega) (by decide)
    have hx2 : ix (nI (32 * t + j)) = 32 * t + j := nI_clamp (by omega)
    have hv2 : vp_in (nI (32 * t + j)) 64 := vp_in_nI (by omega) (by decide)
    have ej : 32 * s + j - 32 * s = j := by omega
    have hA := hs35 j (Nat.le_refl _) (by omega)
    have hB := ht35 j (by omega)
    have key : ∀ y : Int32, y = bi (!(decide (x = 0) && decide (h0 35 (32 * s + j) = 0) && decide (h0 35 (32 * t + j) = 0))) → P_M_connect_147 fz fu (nI s) (nI t) x (nI (j + 1)) (u2 h 35 (32 * s + j) y) ∧ B_M_connect_147 fz fu (nI s) (nI t) x (nI (j + 1)) (u2 h 35 (32 * s + j) y) = B_M_connect_232 fz (nI s) (u2 (u2 (u2 (rs 35 (32 * s + j) (32 * s + 32) (fun i => bi (!(decide (x = 0) && decide (h0 35 i = 0) && decide (h0 35 (32 * t + (i - 32 * s)) = 0)))) h) 44 s 1) 45 t 1) 40 t 1) := by
      intro y hy
      have e : rs 35 (32 * s + (j + 1)) (32 * s + 32) (fun i => bi (!(decide (x = 0) && decide (h0 35 i = 0) && decide (h0 35 (32 * t + (i - 32 * s)) = 0)))) (u2 h 35 (32 * s + j) y) = rs 35 (32 * s + j) (32 * s + 32) (fun i => bi (!(decide (x = 0) && decide (h0 35 i = 0) && decide (h0 35 (32 * t + (i - 32 * s)) = 0)))) h := by
        rw [← Nat.add_assoc]
        exact rs_step (by omega) (by simp only [ej]; exact hy.symm)
      have q := ih fu (j + 1) (u2 h 35 (32 * s + j) y) (by omega) (by omega) (fun i hi => by
        rw [u2_k h y 35 (show 32 * t + i ≠ 32 * s + j by omega)]
        exact ht35 i hi) (fun i h1 h2 => by
        rw [u2_k h y 35 (show 32 * s + i ≠ 32 * s + j by omega)]
        exact hs35 i (by omega) h2) (by rw [e]; exact hp)
      rw [e] at q
      exact q
    by_cases c0 : x = 0
    · by_cases c1 : h 35 (32 * s + j) = 0
      · by_cases c2 : h 35 (32 * t + j) = 0
        · have q := key 0 (by rw [← hA, ← hB]; simp [c0, c1, c2, bi])
          simp only [P_M_connect_147, B_M_connect_147, g, c0, c1, c2, x32, hx, hv, hx2, hv2, nI_1, if_true, if_false, not_true_eq_false, not_false_eq_true, true_implies, false_implies, and_true, true_and] at q ⊢
          exact q
        · have q := key 1 (by rw [← hA, ← hB]; simp [c0, c1, c2, bi])
          simp only [P_M_connect_147, B_M_connect_147, g, c0, c1, c2, x32, hx, hv, hx2, hv2, nI_1, if_true, if_false, not_true_eq_false, not_false_eq_true, true_implies, false_implies, and_true, true_and] at q ⊢
          exact q
      · have q := key 1 (by rw [← hA, ← hB]; simp [c0, c1, bi])
        simp only [P_M_connect_147, B_M_connect_147, g, c0, c1, x32, hx, hv, hx2, hv2, nI_1, if_true, if_false, not_true_eq_false, not_false_eq_true, true_implies, false_implies, and_true, true_and] at q ⊢
        exact q
    · have q := key 1 (by rw [← hA, ← hB]; simp [c0, bi])
      simp only [P_M_connect_147, B_M_connect_147, g, c0, x32, hx, hv, hx2, hv2, nI_1, if_true, if_false, not_true_eq_false, not_false_eq_true, true_implies, false_implies, and_true, true_and] at q ⊢
      exact q
theorem cf_map (fz : Nat) {b : Nat} (hb : b < 2) (h : HH) : ∀ (k fu j : Nat) (acc : Int32), j + k = 32 → k < fu → P_M_map_13 fz fu (nI b) acc (nI j) h ∧ ∀ i, i < 32 → (bt (B_M_map_13 fz fu (nI b) acc (nI j) h) i = true ↔ bt acc i = true ∨ (j ≤ i ∧ ¬ h 35 (32 * b + i) = 0)) := by
  intro k
  induction k with
  | zero =>
    intro fu j acc hk hf
    obtain ⟨fu, rfl⟩ : ∃ q, fu = q + 1 := ⟨fu - 1, by omega⟩
    have g : (32 : Int32) ≤ nI j := by rw [li32]; exact nI_le (by omega) (by omega)
    refine ⟨by simp [P_M_map_13, g], fun i hi => ?_⟩
    simp only [B_M_map_13, g, if_true]
    exact ⟨Or.inl, fun q => q.elim id (fun r => by omega)⟩
  | succ k ih =>
    intro fu j acc hk hf
    obtain ⟨fu, rfl⟩ : ∃ q, fu = q + 1 := ⟨fu - 1, by omega⟩
    have g : ¬ (32 : Int32) ≤ nI j := by rw [li32]; exact nI_ge (by omega) (by omega)
    have hx : ix (nI (32 * b + j)) = 32 * b + j := nI_clamp (by omega)
    have hv : vp_in (nI (32 * b + j)) 64 := vp_in_nI (by omega) (by decide)
    have i0 := ih fu (j + 1) acc (by omega) (by omega)
    have i1 := ih fu (j + 1) (acc ||| ((1 : Int32) <<< (nI j &&& 31))) (by omega) (by omega)
    by_cases c : h 35 (32 * b + j) = 0
    · refine ⟨by simp [P_M_map_13, g, x32, hx, hv, c, nI_1, i0.1], fun i hi => ?_⟩
      have e : B_M_map_13 fz (fu + 1) (nI b) acc (nI j) h = B_M_map_13 fz fu (nI b) acc (nI (j + 1)) h := by simp [B_M_map_13, g, x32, hx, c, nI_1]
      rw [e, i0.2 i hi]
      constructor
      · rintro (q | q)
        · exact Or.inl q
        · exact Or.inr ⟨by omega, q.2⟩
      · rintro (q | q)
        · exact Or.inl q
        · by_cases ei : i = j
          · rw [ei] at q
            exact absurd c q.2
          · exact Or.inr ⟨by omega, q.2⟩
    · refine ⟨by simp [P_M_map_13, g, x32, hx, hv, c, nI_1, i1.1], fun i hi => ?_⟩
      have e : B_M_map_13 fz (fu + 1) (nI b) acc (nI j) h = B_M_map_13 fz fu (nI b) (acc ||| ((1 : Int32) <<< (nI j &&& 31))) (nI (j + 1)) h := by simp [B_M_map_13, g, x32, hx, c, nI_1]
      rw [e, i1.2 i hi, bt_set acc (by omega) hi]
      constructor
      · rintro (q | q)
        · rcases Bool.or_eq_true_iff.mp q with q | q
          · exact Or.inl q
          · have : i = j := by simpa using q
            exact Or.inr ⟨by omega, by rw [this]; exact c⟩
        · exact Or.inr ⟨by omega, q.2⟩
      · rintro (q | q)
        · exact Or.inl (by rw [q]; rfl)
        · by_cases ei : i = j
          · exact Or.inl (by simp [ei])
          · exact Or.inr ⟨by omega, q.2⟩
def sh3 (a e : Nat) (h : HH) : HH := fun c k => if (c = 48 ∨ c = 49 ∨ c = 50) ∧ a ≤ k ∧ k < e then h c (k + 1) else h c k
theorem sh3_end {a e : Nat} {h : HH} (he : e ≤ a) : sh3 a e h = h := by
  funext c k
  unfold sh3
  rw [if_neg (fun q => by omega)]
theorem sh3_step {a e : Nat} {h : HH} (he : a < e) : sh3 (a + 1) e (u2 (u2 (u2 h 48 a (h 48 (a + 1))) 49 a (h 49 (a + 1))) 50 a (h 50 (a + 1))) = sh3 a e h := by
  funext c k
  unfold sh3 u2
  by_cases hk : k = a
  · subst hk
    have e1 : ¬ (k + 1 ≤ k ∧ k < e) := by omega
    by_cases h1 : c = 48
    · subst h1; simp [he]
    · by_cases h2 : c = 49
      · subst h2; simp [he]
      · by_cases h3 : c = 50
        · subst h3; simp [he]
        · simp [h1, h2, h3]
  · have e1 : (a + 1 ≤ k ∧ k < e) ↔ (a ≤ k ∧ k < e) := by omega
    by_cases h4 : a ≤ k
    · have h5 : ¬ k + 1 = a := by omega
      simp [hk, e1, h5]
    · simp [hk, e1, h4]
theorem cf_deliver (fz : Nat) {b : Nat} (hb : b < 2) {c : Nat} (hc : c ≤ 25) (x y z : Int32) : ∀ (k fu i : Nat) (h : HH), i + k = c → k < fu → h 51 b = nI c → P_M_arrive fz (nI (1 - b)) x y z (sh3 (64 * b + i) (64 * b + c) h) → P_M_deliver_59 fz fu (nI b) (nI (64 * b)) x y z (nI (64 * b + i)) h ∧ B_M_deliver_59 fz fu (nI b) (nI (64 * b)) x y z (nI (64 * b + i)) h = (x, B_M_arrive fz (nI (1 - b)) x y z (sh3 (64 * b + i) (64 * b + c) h)) := by
  intro k
  induction k with
  | zero =>
    intro fu i h hk hf h5 hp
    obtain ⟨fu, rfl⟩ : ∃ q, fu = q + 1 := ⟨fu - 1, by omega⟩
    have hxb : ix (nI b) = b := nI_clamp (by omega)
    have hvb : vp_in (nI b) 2 := vp_in_nI hb (by decide)
    have g : nI (64 * b + c) ≤ nI (64 * b + i) := nI_le (by omega) (by omega)
    rw [sh3_end (show 64 * b + c ≤ 64 * b + i by omega)] at hp ⊢
    simp [P_M_deliver_59, B_M_deliver_59, hxb, hvb, h5, nI_add, g, x1m hb, hp]
  | succ k ih =>
    intro fu i h hk hf h5 hp
    obtain ⟨fu, rfl⟩ : ∃ q, fu = q + 1 := ⟨fu - 1, by omega⟩
    have hxb : ix (nI b) = b := nI_clamp (by omega)
    have hvb : vp_in (nI b) 2 := vp_in_nI hb (by decide)
    have g : ¬ nI (64 * b + c) ≤ nI (64 * b + i) := nI_ge (by omega) (by omega)
    have hx : ix (nI (64 * b + i)) = 64 * b + i := nI_clamp (by omega)
    have hv : vp_in (nI (64 * b + i)) 128 := vp_in_nI (by omega) (by decide)
    have hx1 : ix (nI (64 * b + i + 1)) = 64 * b + i + 1 := nI_clamp (by omega)
    have hv1 : vp_in (nI (64 * b + i + 1)) 128 := vp_in_nI (by omega) (by decide)
    have e1 : ∀ y k, u2 h 48 (64 * b + i) y 49 k = h 49 k := fun y k => rfl
    have e2 : ∀ y y' k, u2 (u2 h 48 (64 * b + i) y) 49 (64 * b + i) y' 50 k = h 50 k := fun y y' k => rfl
    have i0 := ih fu (i + 1) (u2 (u2 (u2 h 48 (64 * b + i) (h 48 (64 * b + i + 1))) 49 (64 * b + i) (h 49 (64 * b + i + 1))) 50 (64 * b + i) (h 50 (64 * b + i + 1))) (by omega) (by omega) h5 (by rw [← Nat.add_assoc, sh3_step (by omega)]; exact hp)
    rw [← Nat.add_assoc, sh3_step (by omega)] at i0
    simp only [P_M_deliver_59, B_M_deliver_59, hxb, hvb, h5, nI_add, g, nI_1, hx, hv, hx1, hv1, e1, e2, if_false, not_false_eq_true, true_implies, false_implies, and_true, true_and]
    exact i0
theorem cf_copy (fz : Nat) {b : Nat} (hb : b < 2) (h : HH) (U N : Nat → Nat) (hU : ∀ j, j < 32 → P_M_underWay fz (nI b) (nI j) h ∧ B_M_underWay fz (nI b) (nI j) h = nI (U j) ∧ U j < 1000) (hN : ∀ j, j < 32 → P_M_pending fz (nI b) (nI j) (nI j) h ∧ B_M_pending fz (nI b) (nI j) (nI j) h = nI (N j) ∧ N j < 1000) (hS : ∀ j, j < 32 → P_M_send fz (nI b) 3 (nI j) (h 34 (32 * b + j)) h) : ∀ (k fu j : Nat), j + k = 32 → k < fu → P_M_copy_30 fz fu (nI b) (nI j) h ∧ B_M_copy_30 fz fu (nI b) (nI j) h = match fnd (fun j => !decide (h 35 (32 * b + j) = 0) && decide (U j = 0) && decide (N j = 0)) j k with
    | some j => (nI j, B_M_send fz (nI b) 3 (nI j) (h 34 (32 * b + j)) h)
    | none => (-1, h) := by
  intro k
  induction k with
  | zero =>
    intro fu j hk hf
    obtain ⟨fu, rfl⟩ : ∃ q, fu = q + 1 := ⟨fu - 1, by omega⟩
    have g : (32 : Int32) ≤ nI j := by rw [li32]; exact nI_le (by omega) (by omega)
    simp [P_M_copy_30, B_M_copy_30, g, fnd]
  | succ k ih =>
    intro fu j hk hf
    obtain ⟨fu, rfl⟩ : ∃ q, fu = q + 1 := ⟨fu - 1, by omega⟩
    have g : ¬ (32 : Int32) ≤ nI j := by rw [li32]; exact nI_ge (by omega) (by omega)
    have hx : ix (nI (32 * b + j)) = 32 * b + j := nI_clamp (by omega)
    have hv : vp_in (nI (32 * b + j)) 64 := vp_in_nI (by omega) (by decide)
    have i0 := ih fu (j + 1) (by omega) (by omega)
    obtain ⟨q1, q2, q3⟩ := hU j (by omega)
    obtain ⟨n1, n2, n3⟩ := hN j (by omega)
    have eU : nI (U j) = 0 ↔ U j = 0 := by rw [li0]; exact nI_eq (by omega) (by omega)
    have eN : nI (N j) = 0 ↔ N j = 0 := by rw [li0]; exact nI_eq (by omega) (by omega)
    by_cases c1 : h 35 (32 * b + j) = 0
    · simp [P_M_copy_30, B_M_copy_30, g, x32, hx, hv, c1, nI_1, i0, fnd]
    · by_cases c2 : U j = 0
      · by_cases c3 : N j = 0
        · simp [P_M_copy_30, B_M_copy_30, g, x32, hx, hv, c1, c2, c3, nI_0, nI_1, q1, q2, n1, n2, eU, eN, hS j (by omega), fnd]
        · simp [P_M_copy_30, B_M_copy_30, g, x32, hx, hv, c1, c2, c3, nI_0, nI_1, q1, q2, n1, n2, eU, eN, i0, fnd]
      · simp [P_M_copy_30, B_M_copy_30, g, x32, hx, hv, c1, c2, nI_1, q1, q2, eU, i0, fnd]
