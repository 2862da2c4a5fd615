def sto (ep : Nat → Int32) (f kk : Nat) : List Nat → Nat → Option Nat
  | [], _ => none
  | w :: R, s => if ep w = ep f then (if s = kk then some w else sto ep f kk R (s + 1)) else sto ep f kk R s
def sto0 (ep : Nat → Int32) (kk : Nat) : List Nat → Option Nat
  | [] => none
  | w :: R => sto ep w kk (w :: R) 0
def wP (b : Nat) (h : HH) : Nat → Bool := fun w => !decide (h 33 w = 0) && decide (h 28 w = nI (1 - b))
theorem cf_store1 (fz : Nat) {b : Nat} (hb : b < 2) {n kk : Nat} (hn : n ≤ 300) (hkk : kk < 2 ^ 31) (h : HH) (h5 : h 27 0 = nI n) (hP : ∀ w, 1 ≤ w → w ≤ n → wP b h w = true → P_M_store_90 fz (nI b) (nI w) (u2 h 33 w 0)) {f : Nat} (hf1 : 1 ≤ f) (hf2 : f ≤ n) : ∀ (k fu w s : Nat), 1 ≤ w → w + k = n + 1 → k < fu → s < w → P_M_store_21 fz fu (nI b) (nI kk) (nI f) (nI s) (nI w) h ∧ B_M_store_21 fz fu (nI b) (nI kk) (nI f) (nI s) (nI w) h = match sto (h 31) f kk ((List.range' w k).filter (wP b h)) s with
    | some w => B_M_store_90 fz (nI b) (nI w) (u2 h 33 w 0)
    | none => (0, h) := by
  intro k
  induction k with
  | zero =>
    intro fu w s h1 hk hf hs
    obtain ⟨fu, rfl⟩ : ∃ q, fu = q + 1 := ⟨fu - 1, by omega⟩
    have g : h 27 0 < nI w := by rw [h5]; exact nI_lt (by omega) (by omega)
    simp [P_M_store_21, B_M_store_21, g, sto]
  | succ k ih =>
    intro fu w s h1 hk hf hs
    obtain ⟨fu, rfl⟩ : ∃ q, fu = q + 1 := ⟨fu - 1, by omega⟩
    have g : ¬ h 27 0 < nI w := by rw [h5]; exact nI_nlt (by omega) (by omega)
    have hx : ix (nI w) = w := nI_clamp (by omega)
    have hv : vp_in (nI w) 301 := vp_in_nI (by omega) (by decide)
    have hxf : ix (nI f) = f := nI_clamp (by omega)
    have hvf : vp_in (nI f) 301 := vp_in_nI (by omega) (by decide)
    have hf0 : ¬ nI f = 0 := nI_ne0 (by omega) (by omega)
    have i0 := ih fu (w + 1) s (by omega) (by omega) (by omega) (by omega)
    have i1 := ih fu (w + 1) (s + 1) (by omega) (by omega) (by omega) (by omega)
    have es : nI s = nI kk ↔ s = kk := nI_eq (by omega) hkk
    by_cases c1 : h 33 w = 0
    · have cw : wP b h w = false := by simp [wP, c1]
      rw [List.range'_succ, List.filter_cons_of_neg (by simp [cw])]
      simp only [P_M_store_21, B_M_store_21, g, hx, hv, c1, nI_1, i0, if_true, if_false, not_true_eq_false, not_false_eq_true, true_implies, false_implies, and_true, true_and]
    · by_cases c2 : h 28 w = nI (1 - b)
      · have cw : wP b h w = true := by simp [wP, c1, c2]
        rw [List.range'_succ, List.filter_cons_of_pos (by simp [cw])]
        by_cases c3 : h 31 w = h 31 f
        · by_cases c4 : s = kk
          · have q := hP w h1 (by omega) cw
            simp only [P_M_store_21, B_M_store_21, g, hx, hv, hxf, hvf, hf0, x1m hb, c1, c2, c3, es, c4, q, sto, nI_1, if_true, if_false, not_true_eq_false, not_false_eq_true, true_implies, false_implies, and_true, true_and]
          · simp only [P_M_store_21, B_M_store_21, g, hx, hv, hxf, hvf, hf0, x1m hb, c1, c2, c3, es, c4, i1, sto, nI_1, if_true, if_false, not_true_eq_false, not_false_eq_true, true_implies, false_implies, and_true, true_and]
        · simp only [P_M_store_21, B_M_store_21, g, hx, hv, hxf, hvf, hf0, x1m hb, c1, c2, c3, i0, sto, nI_1, if_true, if_false, not_true_eq_false, not_false_eq_true, true_implies, false_implies, and_true, true_and]
      · have cw : wP b h w = false := by simp [wP, c2]
        rw [List.range'_succ, List.filter_cons_of_neg (by simp [cw])]
        simp only [P_M_store_21, B_M_store_21, g, hx, hv, x1m hb, c1, c2, i0, nI_1, if_true, if_false, not_true_eq_false, not_false_eq_true, true_implies, false_implies, and_true, true_and]
theorem cf_store0 (fz : Nat) {b : Nat} (hb : b < 2) {n kk : Nat} (hn : n ≤ 300) (hkk : kk < 2 ^ 31) (h : HH) (h5 : h 27 0 = nI n) (hP : ∀ w, 1 ≤ w → w ≤ n → wP b h w = true → P_M_store_90 fz (nI b) (nI w) (u2 h 33 w 0)) : ∀ (k fu w : Nat), 1 ≤ w → w + k = n + 1 → k < fu → P_M_store_21 fz fu (nI b) (nI kk) 0 0 (nI w) h ∧ B_M_store_21 fz fu (nI b) (nI kk) 0 0 (nI w) h = match sto0 (h 31) kk ((List.range' w k).filter (wP b h)) with
    | some w => B_M_store_90 fz (nI b) (nI w) (u2 h 33 w 0)
    | none => (0, h) := by
  intro k
  induction k with
  | zero =>
    intro fu w h1 hk hf
    obtain ⟨fu, rfl⟩ : ∃ q, fu = q + 1 := ⟨fu - 1, by omega⟩
    have g : h 27 0 < nI w := by rw [h5]; exact nI_lt (by omega) (by omega)
    simp [P_M_store_21, B_M_store_21, g, sto0]
  | succ k ih =>
    intro fu w h1 hk hf
    obtain ⟨fu, rfl⟩ : ∃ q, fu = q + 1 := ⟨fu - 1, by omega⟩
    have g : ¬ h 27 0 < nI w := by rw [h5]; exact nI_nlt (by omega) (by omega)
    have hx : ix (nI w) = w := nI_clamp (by omega)
    have hv : vp_in (nI w) 301 := vp_in_nI (by omega) (by decide)
    have i0 := ih fu (w + 1) (by omega) (by omega) (by omega)
    have i1 := cf_store1 fz hb hn hkk h h5 hP (f := w) h1 (by omega) k fu (w + 1) 1 (by omega) (by omega) (by omega) (by omega)
    have es : (0 : Int32) = nI kk ↔ 0 = kk := by rw [li0]; exact nI_eq (by omega) hkk
    have e01 : (0 : Int32) + 1 = nI 1 := by decide +kernel
    by_cases c1 : h 33 w = 0
    · have cw : wP b h w = false := by simp [wP, c1]
      rw [List.range'_succ, List.filter_cons_of_neg (by simp [cw])]
      simp only [P_M_store_21, B_M_store_21, g, hx, hv, c1, nI_1, i0, if_true, if_false, not_true_eq_false, not_false_eq_true, true_implies, false_implies, and_true, true_and]
    · by_cases c2 : h 28 w = nI (1 - b)
      · have cw : wP b h w = true := by simp [wP, c1, c2]
        rw [List.range'_succ, List.filter_cons_of_pos (by simp [cw])]
        by_cases c4 : 0 = kk
        · have q := hP w h1 (by omega) cw
          have c5 : (0 = kk) = True := eq_true c4
          simp only [P_M_store_21, B_M_store_21, g, hx, hv, x1m hb, c1, c2, es, c5, q, sto0, sto, if_true, if_false, not_true_eq_false, not_false_eq_true, true_implies, false_implies, and_true, true_and]
        · simp only [P_M_store_21, B_M_store_21, g, hx, hv, x1m hb, c1, c2, es, c4, e01, i1, sto0, sto, nI_1, Nat.zero_add, if_true, if_false, not_true_eq_false, not_false_eq_true, true_implies, false_implies, and_true, true_and]
      · have cw : wP b h w = false := by simp [wP, c2]
        rw [List.range'_succ, List.filter_cons_of_neg (by simp [cw])]
        simp only [P_M_store_21, B_M_store_21, g, hx, hv, x1m hb, c1, c2, i0, nI_1, if_true, if_false, not_true_eq_false, not_false_eq_true, true_implies, false_implies, and_true, true_and]
theorem cf_log23 (fz : Nat) {b e : Nat} (hb : b < 2) (he : e < 8) (x : Int32) (h : HH) : ∀ (k fu f acc : Nat), f + k = 8 → k < fu → P_M_log_23 fz fu (nI b) x (nI e) (nI acc) (nI f) h ∧ (B_M_log_23 fz fu (nI b) x (nI e) (nI acc) (nI f) h).1 = nI (acc + cn (fun i => !decide (h 36 (8 * b + i) = 0) && !decide (h 37 (8 * b + i) ≤ h 37 (8 * b + e))) f k) := by
  intro k
  induction k with
  | zero =>
    intro fu f acc hk hf
    obtain ⟨fu, rfl⟩ : ∃ q, fu = q + 1 := ⟨fu - 1, by omega⟩
    have g : (8 : Int32) ≤ nI f := by rw [li8]; exact nI_le (by omega) (by omega)
    simp [P_M_log_23, B_M_log_23, g, cn]
  | succ k ih =>
    intro fu f acc hk hf
    obtain ⟨fu, rfl⟩ : ∃ q, fu = q + 1 := ⟨fu - 1, by omega⟩
    have g : ¬ (8 : Int32) ≤ nI f := by rw [li8]; exact nI_ge (by omega) (by omega)
    have hx : ix (nI (8 * b + f)) = 8 * b + f := nI_clamp (by omega)
    have hv : vp_in (nI (8 * b + f)) 16 := vp_in_nI (by omega) (by decide)
    have hxe : ix (nI (8 * b + e)) = 8 * b + e := nI_clamp (by omega)
    have hve : vp_in (nI (8 * b + e)) 16 := vp_in_nI (by omega) (by decide)
    have i0 := ih fu (f + 1) acc (by omega) (by omega)
    have i1 := ih fu (f + 1) (acc + 1) (by omega) (by omega)
    by_cases c1 : h 36 (8 * b + f) = 0
    · simp only [P_M_log_23, B_M_log_23, x8, hx, hv, hxe, hve, g, c1, nI_1, i0, cn, if_true, if_false, not_true_eq_false, not_false_eq_true, true_implies, false_implies, and_true, true_and, decide_true, decide_false, Bool.not_true, Bool.not_false, Bool.false_and, Bool.true_and, cond_true, cond_false, Nat.zero_add]
    · by_cases c2 : h 37 (8 * b + f) ≤ h 37 (8 * b + e)
      · simp only [P_M_log_23, B_M_log_23, x8, hx, hv, hxe, hve, g, c1, c2, nI_1, i0, cn, if_true, if_false, not_true_eq_false, not_false_eq_true, true_implies, false_implies, and_true, true_and, decide_true, decide_false, Bool.not_true, Bool.not_false, Bool.false_and, Bool.true_and, cond_true, cond_false, Nat.zero_add]
      · simp only [P_M_log_23, B_M_log_23, x8, hx, hv, hxe, hve, g, c1, c2, nI_1, i1, cn, if_true, if_false, not_true_eq_false, not_false_eq_true, true_implies, false_implies, and_true, true_and, decide_true, decide_false, Bool.not_true, Bool.not_false, Bool.false_and, Bool.true_and, cond_true, cond_false, Nat.add_assoc]
def ltr (b : Nat) (h : HH) (e : Nat) : Nat := cn (fun i => !decide (h 36 (8 * b + i) = 0) && !decide (h 37 (8 * b + i) ≤ h 37 (8 * b + e))) 0 8
theorem cv_log23 (fz : Nat) (hz : 400 ≤ fz) {b e : Nat} (hb : b < 2) (he : e < 8) (x : Int32) (h : HH) : P_M_log_23 fz fz (nI b) x (nI e) 0 0 h ∧ (B_M_log_23 fz fz (nI b) x (nI e) 0 0 h).1 = nI (ltr b h e) := by
  have q := cf_log23 fz hb he x h 8 fz 0 0 (by omega) (by omega)
  rw [Nat.zero_add, ← li0] at q
  exact q
theorem cf_log11 (fz : Nat) (hz : 400 ≤ fz) {b : Nat} (hb : b < 2) (x : Int32) (h : HH) : ∀ (k fu e : Nat), e + k = 8 → k < fu → P_M_log_11 fz fu (nI b) x (nI e) h ∧ B_M_log_11 fz fu (nI b) x (nI e) h = oi (fnd (fun e => !decide (h 36 (8 * b + e) = 0) && decide (nI (ltr b h e) = x)) e k) := by
  intro k
  induction k with
  | zero =>
    intro fu e hk hf
    obtain ⟨fu, rfl⟩ : ∃ q, fu = q + 1 := ⟨fu - 1, by omega⟩
    have g : (8 : Int32) ≤ nI e := by rw [li8]; exact nI_le (by omega) (by omega)
    simp [P_M_log_11, B_M_log_11, g, fnd, oi]
  | succ k ih =>
    intro fu e hk hf
    obtain ⟨fu, rfl⟩ : ∃ q, fu = q + 1 := ⟨fu - 1, by omega⟩
    have g : ¬ (8 : Int32) ≤ nI e := by rw [li8]; exact nI_ge (by omega) (by omega)
    have hx : ix (nI (8 * b + e)) = 8 * b + e := nI_clamp (by omega)
    have hv : vp_in (nI (8 * b + e)) 16 := vp_in_nI (by omega) (by decide)
    have l1 := cv_log23 fz hz hb (show e < 8 by omega) x h
    have i0 := ih fu (e + 1) (by omega) (by omega)
    by_cases c1 : h 36 (8 * b + e) = 0
    · simp [P_M_log_11, B_M_log_11, x8, hx, hv, g, c1, nI_1, l1, i0, fnd]
    · by_cases c2 : nI (ltr b h e) = x
      · simp [P_M_log_11, B_M_log_11, x8, hx, hv, g, c1, c2, l1, fnd, oi]
      · simp [P_M_log_11, B_M_log_11, x8, hx, hv, g, c1, c2, nI_1, l1, i0, fnd]
theorem cv_log (fz : Nat) (hz : 400 ≤ fz) {b : Nat} (hb : b < 2) (x : Int32) (h : HH) : P_M_log_11 fz fz (nI b) x 0 h ∧ B_M_log_11 fz fz (nI b) x 0 h = oi (fnd (fun e => !decide (h 36 (8 * b + e) = 0) && decide (nI (ltr b h e) = x)) 0 8) := by
  have q := cf_log11 fz hz hb x h 8 fz 0 (by omega) (by omega)
  rw [← li0] at q
  exact q
def idl (p : Nat → Bool) (us : Nat → Int32) : Option Nat → Nat → Nat → Option Nat
  | o, _, 0 => o
  | none, e, k + 1 => idl p us (cond (p e) (some e) none) (e + 1) k
  | some a, e, k + 1 => idl p us (cond (p e) (if us a ≤ us e then some a else some e) (some a)) (e + 1) k
def iP (fz b : Nat) (h : HH) : Nat → Bool := fun e => !decide (h 36 (8 * b + e) = 0) && decide (B_M_pending fz (nI b) (nI (4 * e)) (nI (4 * e + 3)) h = 0)
theorem cf_idle (fz : Nat) {b : Nat} (hb : b < 2) (h : HH) (hN : ∀ e, e < 8 → P_M_pending fz (nI b) (nI (4 * e)) (nI (4 * e + 3)) h) : ∀ (k fu e : Nat) (o : Option Nat), e + k = 8 → k < fu → (∀ a, o = some a → a < 8) → P_M_idle_4 fz fu (nI b) (oi o) (nI e) h ∧ B_M_idle_4 fz fu (nI b) (oi o) (nI e) h = oi (idl (iP fz b h) (fun e => h 37 (8 * b + e)) o e k) := by
  intro k
  induction k with
  | zero =>
    intro fu e o hk hf ho
    obtain ⟨fu, rfl⟩ : ∃ q, fu = q + 1 := ⟨fu - 1, by omega⟩
    have g : (8 : Int32) ≤ nI e := by rw [li8]; exact nI_le (by omega) (by omega)
    cases o <;> simp [P_M_idle_4, B_M_idle_4, g, idl]
  | succ k ih =>
    intro fu e o hk hf ho
    obtain ⟨fu, rfl⟩ : ∃ q, fu = q + 1 := ⟨fu - 1, by omega⟩
    have g : ¬ (8 : Int32) ≤ nI e := by rw [li8]; exact nI_ge (by omega) (by omega)
    have hx : ix (nI (8 * b + e)) = 8 * b + e := nI_clamp (by omega)
    have hv : vp_in (nI (8 * b + e)) 16 := vp_in_nI (by omega) (by decide)
    have e4 : (4 : Int32) * nI e = nI (4 * e) := by rw [li4, pk_mul]
    have e43 : nI (4 * e) + (3 : Int32) = nI (4 * e + 3) := by rw [li3, nI_add]
    have hp := hN e (by omega)
    have m1 : (-1 : Int32) < 0 := by decide
    by_cases c1 : h 36 (8 * b + e) = 0
    · have cp : iP fz b h e = false := by simp [iP, c1]
      have i0 := ih fu (e + 1) o (by omega) (by omega) ho
      cases o with
      | none => simp only [P_M_idle_4, B_M_idle_4, x8, hx, hv, g, c1, nI_1, i0, idl, cp, if_true, if_false, not_true_eq_false, not_false_eq_true, true_implies, false_implies, and_true, true_and, decide_true, decide_false, Bool.not_true, Bool.not_false, Bool.false_and, Bool.true_and, cond_true, cond_false]
      | some a => simp only [P_M_idle_4, B_M_idle_4, x8, hx, hv, g, c1, nI_1, i0, idl, cp, if_true, if_false, not_true_eq_false, not_false_eq_true, true_implies, false_implies, and_true, true_and, decide_true, decide_false, Bool.not_true, Bool.not_false, Bool.false_and, Bool.true_and, cond_true, cond_false]
    · by_cases c2 : B_M_pending fz (nI b) (nI (4 * e)) (nI (4 * e + 3)) h = 0
      · have cp : iP fz b h e = true := by simp [iP, c1, c2]
        have i1 := ih fu (e + 1) (some e) (by omega) (by omega) (fun a ha => by cases ha; omega)
        have ie : oi (some e) = nI e := rfl
        rw [ie] at i1
        cases o with
        | none =>
          have io : oi none = -1 := rfl
          simp only [P_M_idle_4, B_M_idle_4, x8, hx, hv, g, c1, c2, e4, e43, hp, m1, io, nI_1, i1, idl, cp, if_true, if_false, not_true_eq_false, not_false_eq_true, true_implies, false_implies, and_true, true_and, decide_true, decide_false, Bool.not_true, Bool.not_false, Bool.false_and, Bool.true_and, cond_true, cond_false]
        | some a =>
          have ha := ho a rfl
          have io : oi (some a) = nI a := rfl
          have hxa : ix (nI (8 * b + a)) = 8 * b + a := nI_clamp (by omega)
          have hva : vp_in (nI (8 * b + a)) 16 := vp_in_nI (by omega) (by decide)
          have ga : ¬ nI a < 0 := nI_pos (by omega)
          have i0 := ih fu (e + 1) (some a) (by omega) (by omega) ho
          rw [io] at i0
          by_cases c3 : h 37 (8 * b + a) ≤ h 37 (8 * b + e)
          · simp only [P_M_idle_4, B_M_idle_4, x8, hx, hv, hxa, hva, ga, g, c1, c2, c3, e4, e43, hp, io, nI_1, i0, idl, cp, if_true, if_false, not_true_eq_false, not_false_eq_true, true_implies, false_implies, and_true, true_and, decide_true, decide_false, Bool.not_true, Bool.not_false, Bool.false_and, Bool.true_and, cond_true, cond_false]
          · simp only [P_M_idle_4, B_M_idle_4, x8, hx, hv, hxa, hva, ga, g, c1, c2, c3, e4, e43, hp, io, nI_1, i1, idl, cp, if_true, if_false, not_true_eq_false, not_false_eq_true, true_implies, false_implies, and_true, true_and, decide_true, decide_false, Bool.not_true, Bool.not_false, Bool.false_and, Bool.true_and, cond_true, cond_false]
      · have cp : iP fz b h e = false := by simp [iP, c2]
        have i0 := ih fu (e + 1) o (by omega) (by omega) ho
        cases o with
        | none => simp only [P_M_idle_4, B_M_idle_4, x8, hx, hv, g, c1, c2, e4, e43, hp, nI_1, i0, idl, cp, if_true, if_false, not_true_eq_false, not_false_eq_true, true_implies, false_implies, and_true, true_and, decide_true, decide_false, Bool.not_true, Bool.not_false, Bool.false_and, Bool.true_and, cond_true, cond_false]
        | some a => simp only [P_M_idle_4, B_M_idle_4, x8, hx, hv, g, c1, c2, e4, e43, hp, nI_1, i0, idl, cp, if_true, if_false, not_true_eq_false, not_false_eq_true, true_implies, false_implies, and_true, true_and, decide_true, decide_false, Bool.not_true, Bool.not_false, Bool.false_and, Bool.true_and, cond_true, cond_false]
theorem cv_idle (fz : Nat) (hz : 400 ≤ fz) {b : Nat} (hb : b < 2) (h : HH) (hN : ∀ e, e < 8 → P_M_pending fz (nI b) (nI (4 * e)) (nI (4 * e + 3)) h) : P_M_idle fz (nI b) h ∧ B_M_idle fz (nI b) h = oi (idl (iP fz b h) (fun e => h 37 (8 * b + e)) none 0 8) := by
  have q := cf_idle fz hb h hN 8 fz 0 none (by omega) (by omega) (fun a ha => by cases ha)
  rw [← li0] at q
  exact q
theorem cf_traffic (fz : Nat) {b : Nat} (hb : b < 2) {n : Nat} (hn : n ≤ 300) (h : HH) (h5 : h 27 0 = nI n) (hU : P_M_underWay fz (nI b) (-1) h) : ∀ (k fu w acc : Nat), w + k = n + 1 → k < fu → P_M_traffic_13 fz fu (nI b) (nI acc) (nI w) h ∧ B_M_traffic_13 fz fu (nI b) (nI acc) (nI w) h = (h 51 b + 100 * nI (acc + cn (wP b h) w k)) + 10000 * B_M_underWay fz (nI b) (-1) h := by
  intro k
  induction k with
  | zero =>
    intro fu w acc hk hf
    obtain ⟨fu, rfl⟩ : ∃ q, fu = q + 1 := ⟨fu - 1, by omega⟩
    have g : h 27 0 < nI w := by rw [h5]; exact nI_lt (by omega) (by omega)
    have hxb : ix (nI b) = b := nI_clamp (by omega)
    have hvb : vp_in (nI b) 2 := vp_in_nI hb (by decide)
    simp [P_M_traffic_13, B_M_traffic_13, g, hxb, hvb, hU, cn]
  | succ k ih =>
    intro fu w acc hk hf
    obtain ⟨fu, rfl⟩ : ∃ q, fu = q + 1 := ⟨fu - 1, by omega⟩
    have g : ¬ h 27 0 < nI w := by rw [h5]; exact nI_nlt (by omega) (by omega)
    have hx : ix (nI w) = w := nI_clamp (by omega)
    have hv : vp_in (nI w) 301 := vp_in_nI (by omega) (by decide)
    have i0 := ih fu (w + 1) acc (by omega) (by omega)
    have i1 := ih fu (w + 1) (acc + 1) (by omega) (by omega)
    by_cases c1 : h 33 w = 0
    · have cw : wP b h w = false := by simp [wP, c1]
      simp only [P_M_traffic_13, B_M_traffic_13, g, hx, hv, c1, nI_1, i0, cn, cw, Nat.zero_add, if_true, if_false, not_true_eq_false, not_false_eq_true, true_implies, false_implies, and_true, true_and, decide_true, decide_false, Bool.not_true, Bool.not_false, Bool.false_and, Bool.true_and, cond_true, cond_false]
    · by_cases c2 : h 28 w = nI (1 - b)
      · have cw : wP b h w = true := by simp [wP, c1, c2]
        simp only [P_M_traffic_13, B_M_traffic_13, g, hx, hv, x1m hb, c1, c2, nI_1, i1, cn, cw, Nat.add_assoc, if_true, if_false, not_true_eq_false, not_false_eq_true, true_implies, false_implies, and_true, true_and, decide_true, decide_false, Bool.not_true, Bool.not_false, Bool.false_and, Bool.true_and, cond_true, cond_false]
      · have cw : wP b h w = false := by simp [wP, c2]
        simp only [P_M_traffic_13, B_M_traffic_13, g, hx, hv, x1m hb, c1, c2, nI_1, i0, cn, cw, Nat.zero_add, if_true, if_false, not_true_eq_false, not_false_eq_true, true_implies, false_implies, and_true, true_and, decide_true, decide_false, Bool.not_true, Bool.not_false, Bool.false_and, Bool.true_and, cond_true, cond_false]
theorem cv_map (fz : Nat) (hz : 400 ≤ fz) {b : Nat} (hb : b < 2) (h : HH) : P_M_map_13 fz fz (nI b) 0 0 h ∧ ∀ i, i < 32 → (bt (B_M_map_13 fz fz (nI b) 0 0 h) i = true ↔ bt 0 i = true ∨ (0 ≤ i ∧ ¬ h 35 (32 * b + i) = 0)) := by
  have q := cf_map fz hb h 32 fz 0 0 (by omega) (by omega)
  rw [← li0] at q
  exact q
theorem cv_finish (fz : Nat) (hz : 400 ≤ fz) {b : Nat} (hb : b < 2) (x : Int32) (h : HH) : P_M_arrive_139 fz fz (nI b) x 0 h ∧ B_M_arrive_139 fz fz (nI b) x 0 h = u2 (u2 (rs 35 (32 * b + 0) (32 * b + 32) (fun _ => 0) h) 38 b x) 39 b 0 := by
  have q := cf_finish fz hb x 32 fz 0 h (by omega) (by omega)
  rw [← li0] at q
  exact q
theorem cv_discard (fz : Nat) (hz : 400 ≤ fz) {b : Nat} (hb : b < 2) (h : HH) (hp : P_M_turnInto fz (nI b) 3 4 (rs 35 (32 * b + 0) (32 * b + 32) (fun _ => 0) h)) : P_M_discard_75 fz fz (nI b) 0 h ∧ B_M_discard_75 fz fz (nI b) 0 h = (1, B_M_turnInto fz (nI b) 3 4 (rs 35 (32 * b + 0) (32 * b + 32) (fun _ => 0) h)) := by
  have q := cf_discard fz hb 32 fz 0 h (by omega) (by omega) hp
  rw [← li0] at q
  exact q
theorem cv_restart (fz : Nat) (hz : 400 ≤ fz) {b : Nat} (hb : b < 2) (h : HH) : P_M_restart_27 fz fz (nI b) 0 h ∧ B_M_restart_27 fz fz (nI b) 0 h = (1, rs 35 (32 * b + 0) (32 * b + 32) (fun i => if ¬ h 41 b = 0 ∧ ¬ h 36 (8 * b + (i - 32 * b) / 4) = 0 then 1 else h 35 i) h) := by
  have q := cf_restart fz hb h 32 fz 0 h (by omega) (by omega) (fun _ => rfl) (fun _ => rfl) (fun _ _ => rfl)
  rw [← li0] at q
  exact q
theorem cv_connect (fz : Nat) (hz : 400 ≤ fz) {s t : Nat} (hs : s < 2) (ht : t < 2) (hst : s ≠ t) (x : Int32) (h : HH) (hp : P_M_connect_232 fz (nI s) (u2 (u2 (u2 (rs 35 (32 * s + 0) (32 * s + 32) (fun i => bi (!(decide (x = 0) && decide (h 35 i = 0) && decide (h 35 (32 * t + (i - 32 * s)) = 0)))) h) 44 s 1) 45 t 1) 40 t 1)) : P_M_connect_147 fz fz (nI s) (nI t) x 0 h ∧ B_M_connect_147 fz fz (nI s) (nI t) x 0 h = B_M_connect_232 fz (nI s) (u2 (u2 (u2 (rs 35 (32 * s + 0) (32 * s + 32) (fun i => bi (!(decide (x = 0) && decide (h 35 i = 0) && decide (h 35 (32 * t + (i - 32 * s)) = 0)))) h) 44 s 1) 45 t 1) 40 t 1) := by
  have q := cf_connect fz hs ht hst x h 32 fz 0 h (by omega) (by omega) (fun _ _ => rfl) (fun _ _ _ => rfl) hp
  rw [← li0] at q
  exact q
theorem cv_store (fz : Nat) (hz : 400 ≤ fz) {b : Nat} (hb : b < 2) {n kk : Nat} (hn : n ≤ 300) (hkk : kk < 2 ^ 31) (h : HH) (h5 : h 27 0 = nI n) (hP : ∀ w, 1 ≤ w → w ≤ n → wP b h w = true → P_M_store_90 fz (nI b) (nI w) (u2 h 33 w 0)) : P_M_store_21 fz fz (nI b) (nI kk) 0 0 1 h ∧ B_M_store_21 fz fz (nI b) (nI kk) 0 0 1 h = match sto0 (h 31) kk ((List.range' 1 n).filter (wP b h)) with
    | some w => B_M_store_90 fz (nI b) (nI w) (u2 h 33 w 0)
    | none => (0, h) := by
  have q := cf_store0 fz hb hn hkk h h5 hP n fz 1 (by omega) (by omega) (by omega)
  rw [← li1] at q
  exact q
theorem cv_traffic (fz : Nat) (hz : 400 ≤ fz) {b : Nat} (hb : b < 2) {n : Nat} (hn : n ≤ 300) (h : HH) (h5 : h 27 0 = nI n) (hU : P_M_underWay fz (nI b) (-1) h) : P_M_traffic_13 fz fz (nI b) 0 1 h ∧ B_M_traffic_13 fz fz (nI b) 0 1 h = (h 51 b + 100 * nI (cn (wP b h) 1 n)) + 10000 * B_M_underWay fz (nI b) (-1) h := by
  have q := cf_traffic fz hb hn h h5 hU n fz 1 0 (by omega) (by omega)
  rw [Nat.zero_add, ← li0, ← li1] at q
  exact q
theorem cv_copy (fz : Nat) (hz : 400 ≤ fz) {b : Nat} (hb : b < 2) (h : HH) (U N : Nat → Nat) (hU : ∀ j, j < 32 → P_M_underWay fz (nI b) (nI j) h ∧ B_M_underWay fz (nI b) (nI j) h = nI (U j) ∧ U j < 1000) (hN : ∀ j, j < 32 → P_M_pending fz (nI b) (nI j) (nI j) h ∧ B_M_pending fz (nI b) (nI j) (nI j) h = nI (N j) ∧ N j < 1000) (hS : ∀ j, j < 32 → P_M_send fz (nI b) 3 (nI j) (h 34 (32 * b + j)) h) : P_M_copy_30 fz fz (nI b) 0 h ∧ B_M_copy_30 fz fz (nI b) 0 h = match fnd (fun j => !decide (h 35 (32 * b + j) = 0) && decide (U j = 0) && decide (N j = 0)) 0 32 with
    | some j => (nI j, B_M_send fz (nI b) 3 (nI j) (h 34 (32 * b + j)) h)
    | none => (-1, h) := by
  have q := cf_copy fz hb h U N hU hN hS 32 fz 0 (by omega) (by omega)
  rw [← li0] at q
  exact q
