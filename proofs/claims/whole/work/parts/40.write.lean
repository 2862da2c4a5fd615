theorem pendB {n : Nat} {own blk ep ft : Nat → Nat} {v m : HH} (fz : Nat) (hz : 400 ≤ fz) (hT : GT n own blk ep ft (v 21 5) (v 22) (v 23) (v 24) (v 25) (v 26) (m 27 0) (m 27 11) (m 28) (m 29) (m 30) (m 31) (m 32)) (iT : IT n own blk ep ft) {b : Nat} (hb : b < 2) : P_T_pendingBlocks fz (nI b) v ∧ ∀ j, j < 32 → (bt (B_T_pendingBlocks fz (nI b) v) j = true ↔ ∃ w, 1 ≤ w ∧ w ≤ n ∧ own w = b ∧ ft w = 1 ∧ blk w = j) := by
  obtain ⟨pP, hpb⟩ := cv_pendingBlocks fz hz (nI b) v iT.1 hT.1 (fun w h1 h2 => ⟨blk w, (iT.2 w h1 h2).2.1, (hT.2.2.2.2 w h1 h2).1.2.1⟩)
  refine ⟨pP, fun j hj => ?_⟩
  rw [hpb j hj]
  constructor
  · rintro ⟨w, h1, h2, h3, h4, h5⟩
    obtain ⟨⟨e1, e2, e3, e4, e5⟩, -⟩ := hT.2.2.2.2 w h1 h2
    obtain ⟨o1, o2, o3, o4⟩ := iT.2 w h1 h2
    exact ⟨w, h1, h2, (nI_eq (by omega) (by omega)).mp (e1.symm.trans h3), (nI_eq (by omega) (by omega)).mp (e5.symm.trans (h4.trans li1)), (nI_eq (by omega) (by omega)).mp (e2.symm.trans h5)⟩
  · rintro ⟨w, h1, h2, h3, h4, h5⟩
    obtain ⟨⟨e1, e2, e3, e4, e5⟩, -⟩ := hT.2.2.2.2 w h1 h2
    exact ⟨w, h1, h2, by rw [e1, h3], by rw [e5, h4]; exact li1.symm, by rw [e2, h5]⟩
theorem extV {n : Nat} {own blk ep ft : Nat → Nat} {v m : HH} (fz : Nat) (hz : 400 ≤ fz) (hT : GT n own blk ep ft (v 21 5) (v 22) (v 23) (v 24) (v 25) (v 26) (m 27 0) (m 27 11) (m 28) (m 29) (m 30) (m 31) (m 32)) (iT : IT n own blk ep ft) {b e : Nat} (hb : b < 2) (he : e < 8) : (B_V_blocksOfExtent fz (nI e) v &&& B_T_pendingBlocks fz (nI b) v = 0) ↔ ¬ (∃ w, (1 ≤ w ∧ w ≤ n) ∧ own w = b ∧ ft w = 1 ∧ blk w / 4 = e) := by
  have hp := (pendB fz hz hT iT hb).2
  rw [bt_zero]
  constructor
  · rintro h ⟨w, ⟨h1, h2⟩, h3, h4, h5⟩
    have hw := (iT.2 w h1 h2).2.1
    have := h (blk w) hw
    rw [b_and, (hp (blk w) hw).mpr ⟨w, h1, h2, h3, h4, rfl⟩, B_V_blocksOfExtent, bt_ext15 e he (blk w) hw] at this
    simp [h5] at this
  · intro h j hj
    rw [b_and, B_V_blocksOfExtent, bt_ext15 e he j hj]
    cases hbt : bt (B_T_pendingBlocks fz (nI b) v) j with
    | false => exact Bool.and_false _
    | true =>
      obtain ⟨w, h1, h2, h3, h4, h5⟩ := (hp j hj).mp hbt
      have : ¬ j / 4 = e := fun r => h ⟨w, ⟨h1, h2⟩, h3, h4, by rw [h5]; exact r⟩
      simp [this]
theorem extM {n : Nat} {own blk ep ft : Nat → Nat} {v m : HH} (fz : Nat) (hz : 400 ≤ fz) (hT : GT n own blk ep ft (v 21 5) (v 22) (v 23) (v 24) (v 25) (v 26) (m 27 0) (m 27 11) (m 28) (m 29) (m 30) (m 31) (m 32)) (iT : IT n own blk ep ft) {b e : Nat} (hb : b < 2) (he : e < 8) : P_M_pending fz (nI b) (nI (4 * e)) (nI (4 * e + 3)) m ∧ (B_M_pending fz (nI b) (nI (4 * e)) (nI (4 * e + 3)) m = 0 ↔ ¬ (∃ w, (1 ≤ w ∧ w ≤ n) ∧ own w = b ∧ ft w = 1 ∧ blk w / 4 = e)) := by
  obtain ⟨q1, q2⟩ := cp_M fz hz hT iT hb (f := 4 * e) (t := 4 * e + 3) (by omega) (by omega) rfl rfl
  refine ⟨q1, ?_⟩
  have hle := cn_le (fun w => decide (own w = b ∧ ft w = 1 ∧ 4 * e ≤ blk w ∧ blk w ≤ 4 * e + 3)) n 1
  have hn := iT.1
  have hcp := cn_pos (p := fun w => decide (own w = b ∧ ft w = 1 ∧ 4 * e ≤ blk w ∧ blk w ≤ 4 * e + 3)) n 1
  have k : nI (cn (fun w => decide (own w = b ∧ ft w = 1 ∧ 4 * e ≤ blk w ∧ blk w ≤ 4 * e + 3)) 1 n) = 0 ↔ cn (fun w => decide (own w = b ∧ ft w = 1 ∧ 4 * e ≤ blk w ∧ blk w ≤ 4 * e + 3)) 1 n = 0 := by rw [li0]; exact nI_eq (by omega) (by omega)
  rw [q2, k]
  constructor
  · rintro h ⟨w, ⟨h1, h2⟩, h3, h4, h5⟩
    have := hcp.mpr ⟨w, h1, by omega, decide_eq_true ⟨h3, h4, by omega, by omega⟩⟩
    omega
  · intro h
    refine Nat.eq_zero_of_not_pos (fun r => ?_)
    obtain ⟨w, h1, h2, h3⟩ := hcp.mp r
    have h4 := of_decide_eq_true h3
    exact h ⟨w, ⟨h1, by omega⟩, h4.1, h4.2.1, by omega⟩
def wLM (fz b e0 : Nat) (m : HH) (K : HH → Int32 × HH) : Int32 × HH := if m 36 (8 * b + e0) = 0 then (if B_M_inLog fz (nI b) m = (3 : Int32) then (if 0 ≤ B_M_idle fz (nI b) m then K (u2 m 36 (ix ((8 : Int32) * nI b + B_M_idle fz (nI b) m)) 0) else (-5, m)) else K m) else K m
def wLP (fz b e0 : Nat) (m : HH) (K : HH → Prop) : Prop := (m 36 (8 * b + e0) = 0 → (P_M_inLog fz (nI b) m ∧ ((B_M_inLog fz (nI b) m = (3 : Int32) → (P_M_idle fz (nI b) m ∧ ((0 ≤ B_M_idle fz (nI b) m → (vp_in ((8 : Int32) * nI b + B_M_idle fz (nI b) m) 16 ∧ K (u2 m 36 (ix ((8 : Int32) * nI b + B_M_idle fz (nI b) m)) 0))) ∧ (¬ 0 ≤ B_M_idle fz (nI b) m → True)))) ∧ (¬ B_M_inLog fz (nI b) m = (3 : Int32) → K m)))) ∧ (¬ m 36 (8 * b + e0) = 0 → K m)
theorem wlog_0 (fz : Nat) (hz : 400 ≤ fz) {n : Nat} {own blk ep ft : Nat → Nat} {sc : HH} {lk gr : Int32} {mp un : Nat → Nat → Bool} {q : Nat → List MSG} {wt : Nat → List Nat} {wx : Nat → Bool} {lg : Nat → List Nat} {us : Nat → Nat → Nat} {pv : Nat → Nat} {v m : HH} (hR : Rel n own blk ep ft sc lk gr mp un q wt wx lg us pv (v) (m)) (iT : IT n own blk ep ft) {e0 : Nat} (he0 : e0 < 8) : (∃ (p g : Nat) (y : Int32) (mG : HH), p < 3 ∧ p ≤ (lg 0).length ∧ g < 8 ∧ (P_E_placeFor fz 1 (nI e0) (B_T_pendingBlocks fz (nI 0) v) v ∧ B_E_placeFor fz 1 (nI e0) (B_T_pendingBlocks fz (nI 0) v) v = nI p) ∧ (GG 0 (n + 1) (e0 :: (lg 0).eraseIdx p) (ug (us 0) e0 (n + 1)) (nI (e0 :: (lg 0).eraseIdx p).length) (pfr 1 (nI e0) p v 4) (u2 (u2 m 36 (8 * 0 + g) y) 36 (8 * 0 + e0) 1 36) (u2 m 37 (8 * 0 + e0) (nI (n + 1)) 37)) ∧ u2 mG 36 (8 * 0 + e0) 1 = u2 (u2 m 36 (8 * 0 + g) y) 36 (8 * 0 + e0) 1 ∧ (∀ c, c ≠ 36 → mG c = m c) ∧ (∀ K, wLM fz 0 e0 m K = K mG) ∧ (∀ K : HH → Prop, K mG → wLP fz 0 e0 m K)) ∨ ((P_E_placeFor fz 1 (nI e0) (B_T_pendingBlocks fz (nI 0) v) v ∧ B_E_placeFor fz 1 (nI e0) (B_T_pendingBlocks fz (nI 0) v) v = -1) ∧ (∀ K, wLM fz 0 e0 m K = (-5, m)) ∧ (∀ K : HH → Prop, wLP fz 0 e0 m K)) := by
  obtain ⟨hL, hT, hX, hS0, hM0, hD0, hR0, hA0, hW0, hG0, hU0, hE0, hS1, hM1, hD1, hR1, hA1, hW1, hG1, hU1, hE1⟩ := hR
  have hn := iT.1
  have hGG := hG0
  obtain ⟨g1, g2, g3, g4, g5, g6⟩ := hG0
  have nd : (lg 0).Nodup := g6.imp (fun {a b} (r : us 0 b < us 0 a) (h : a = b) => by rw [h] at r; exact Nat.lt_irrefl _ r)
  have hcp := cv_placeFor fz hz 1 (nI e0) (B_T_pendingBlocks fz (nI 0) v) v (s := (lg 0).length) g1 g2
  have i1 := cv_inLog fz hz (b := 0) (by decide) m
  have hcnt : cn (fun i => !decide (m 36 (8 * 0 + i) = 0)) 0 8 = (lg 0).length := by
    refine cn_len nd (fun x => ?_)
    constructor
    · intro hx
      have h8 := (g5 x hx).1
      refine ⟨⟨Nat.zero_le _, by omega⟩, ?_⟩
      rw [(g4 x h8).1]
      simp [hx, bi]
    · rintro ⟨⟨_, h8⟩, hp⟩
      rw [(g4 x (by omega)).1] at hp
      by_cases c : x ∈ lg 0
      · exact c
      · simp [c, bi] at hp
  rw [hcnt] at i1
  have hmem := (g4 e0 he0).1
  cases hf : fnd (fun p => decide (v (1 + 3) p = nI e0)) 0 (lg 0).length with
  | some p =>
    rw [hf] at hcp
    obtain ⟨-, hp, hpe, -⟩ := fnd_some _ _ _ hf
    have hpl : p < (lg 0).length := by omega
    have hk : (lg 0)[p]? = some e0 := by
      have h1 : v (1 + 3) p = nI (lg 0)[p] := g3 p _ (List.getElem?_eq_getElem hpl)
      have h2 := of_decide_eq_true hpe
      have h8 := (g5 _ (List.getElem_mem hpl)).1
      have : (lg 0)[p] = e0 := (nI_eq (by omega) (by omega)).mp (h1.symm.trans h2)
      rw [List.getElem?_eq_getElem hpl, this]
    have hin : e0 ∈ lg 0 := List.mem_of_getElem? hk
    have hne : ¬ m 36 (8 * 0 + e0) = 0 := by rw [hmem]; simp [hin, bi]
    refine Or.inl ⟨p, e0, 1, m, by omega, by omega, he0, hcp, put_front (i := 1) (b := 0) hGG (by decide) he0 he0 (by omega) (by omega) (fun _ => hk) (fun e he hee => ?_), (u2_u2 _ _ _ _ _).symm, fun _ _ => rfl, fun K => ?_, fun K hK => ?_⟩
    · rw [u2_k m 1 36 (show 8 * 0 + e ≠ 8 * 0 + e0 by omega), (g4 e he).1]
      congr 1
      rw [decide_eq_decide]
      exact ⟨fun r => ⟨r, fun q => hee (Option.some.inj (q.symm.trans hk))⟩, fun r => r.1⟩
    · rw [wLM, if_neg hne]
    · exact ⟨fun r => absurd r hne, fun _ => hK⟩
  | none =>
    rw [hf] at hcp
    have hout : e0 ∉ lg 0 := fun r => by
      obtain ⟨k, hk1, hk2⟩ := List.getElem_of_mem r
      have h1 : v (1 + 3) k = nI (lg 0)[k] := g3 k _ (List.getElem?_eq_getElem hk1)
      have h2 := fnd_none _ _ hf k (Nat.zero_le _) (by omega)
      rw [h1, hk2] at h2
      simp at h2
    have he36 : m 36 (8 * 0 + e0) = 0 := by rw [hmem]; simp [hout, bi]
    by_cases h3 : (lg 0).length < 3
    · have hlen : (lg 0)[(lg 0).length]? = none := List.getElem?_eq_none (Nat.le_refl _)
      have n3 : ¬ B_M_inLog fz (nI 0) m = (3 : Int32) := fun r => by
        rw [i1.2, li3] at r
        have := (nI_eq (by omega) (by omega)).mp r
        omega
      have hcp2 : P_E_placeFor fz 1 (nI e0) (B_T_pendingBlocks fz (nI 0) v) v ∧ B_E_placeFor fz 1 (nI e0) (B_T_pendingBlocks fz (nI 0) v) v = nI (lg 0).length := ⟨hcp.1, hcp.2.trans (if_pos h3)⟩
      refine Or.inl ⟨(lg 0).length, e0, 1, m, h3, Nat.le_refl _, he0, hcp2, put_front (i := 1) (b := 0) hGG (by decide) he0 he0 h3 (Nat.le_refl _) (fun r => absurd r hout) (fun e he hee => ?_), (u2_u2 _ _ _ _ _).symm, fun _ _ => rfl, fun K => ?_, fun K hK => ?_⟩
      · rw [u2_k m 1 36 (show 8 * 0 + e ≠ 8 * 0 + e0 by omega), (g4 e he).1]
        congr 1
        rw [decide_eq_decide]
        exact ⟨fun r => ⟨r, fun q => by rw [hlen] at q; cases q⟩, fun r => r.1⟩
      · rw [wLM, if_pos he36, if_neg n3]
      · exact ⟨fun _ => ⟨i1.1, fun r => absurd r n3, fun _ => hK⟩, fun r => absurd he36 r⟩
    · have h33 : (lg 0).length = 3 := by omega
      have e3 : B_M_inLog fz (nI 0) m = (3 : Int32) := by rw [i1.2, h33]; exact li3.symm
      have cid := cv_idle fz hz (b := 0) (by decide) m (fun e he => (extM fz hz hT iT (b := 0) (by decide) he).1)
      have hiP : ∀ e, e < 8 → (iP fz 0 m e = true ↔ e ∈ lg 0 ∧ ¬ (∃ w, (1 ≤ w ∧ w ≤ n) ∧ own w = 0 ∧ ft w = 1 ∧ blk w / 4 = e)) := by
        intro e he
        have hx := (extM fz hz hT iT (b := 0) (by decide) he).2
        unfold iP
        rw [Bool.and_eq_true, decide_eq_true_iff, hx, (g4 e he).1]
        constructor
        · rintro ⟨r1, r2⟩
          refine ⟨?_, r2⟩
          by_cases c : e ∈ lg 0
          · exact c
          · simp [c, bi] at r1
        · rintro ⟨r1, r2⟩
          exact ⟨by simp [r1, bi], r2⟩
      have hids := idl_spec (p := iP fz 0 m) (us := fun e => m 37 (8 * 0 + e)) (u := us 0) (fun e he hp => ⟨(g4 e he).2, by
        have := (g5 e ((hiP e he).mp hp).1).2
        omega⟩) 8 0 none (by omega) (fun a ha => by cases ha) (fun _ x hx => by omega)
      have hcp2 : B_E_placeFor fz 1 (nI e0) (B_T_pendingBlocks fz (nI 0) v) v = oi (fndD (fun p => decide (B_V_blocksOfExtent fz (v (1 + 3) p) v &&& B_T_pendingBlocks fz (nI 0) v = 0)) (lg 0).length) := hcp.2.trans (if_neg h3)
      have hpd : ∀ p, (hp : p < (lg 0).length) → (decide (B_V_blocksOfExtent fz (v (1 + 3) p) v &&& B_T_pendingBlocks fz (nI 0) v = 0) = true ↔ ¬ (∃ w, (1 ≤ w ∧ w ≤ n) ∧ own w = 0 ∧ ft w = 1 ∧ blk w / 4 = (lg 0)[p])) := by
        intro p hp
        have h1 : v (1 + 3) p = nI (lg 0)[p] := g3 p _ (List.getElem?_eq_getElem hp)
        rw [h1, decide_eq_true_iff]
        exact extV fz hz hT iT (b := 0) (by decide) (g5 _ (List.getElem_mem hp)).1
      cases hfd : fndD (fun p => decide (B_V_blocksOfExtent fz (v (1 + 3) p) v &&& B_T_pendingBlocks fz (nI 0) v = 0)) (lg 0).length with
      | none =>
        rw [hfd] at hcp2
        have hall : ∀ e, e < 8 → iP fz 0 m e = false := by
          intro e he
          cases hc : iP fz 0 m e with
          | false => rfl
          | true =>
            obtain ⟨r1, r2⟩ := (hiP e he).mp hc
            obtain ⟨k, hk1, hk2⟩ := List.getElem_of_mem r1
            have h2 := fndD_none _ hfd k hk1
            have h3 := (hpd k hk1).mpr (by rw [hk2]; exact r2)
            rw [h2] at h3
            cases h3
        have hin : idl (iP fz 0 m) (fun e => m 37 (8 * 0 + e)) none 0 8 = none := by
          cases hc : idl (iP fz 0 m) (fun e => m 37 (8 * 0 + e)) none 0 8 with
          | none => rfl
          | some a =>
            obtain ⟨r1, r2, -⟩ := hids.1 a hc
            rw [hall a r1] at r2
            cases r2
        have em1 : B_M_idle fz (nI 0) m = -1 := by rw [cid.2, hin]; rfl
        have nle : ¬ 0 ≤ B_M_idle fz (nI 0) m := by rw [em1]; decide
        refine Or.inr ⟨⟨hcp.1, hcp2⟩, fun K => ?_, fun K => ?_⟩
        · rw [wLM, if_pos he36, if_pos e3, if_neg nle]
        · exact ⟨fun _ => ⟨i1.1, fun _ => ⟨cid.1, fun r => absurd r nle, fun _ => trivial⟩, fun r => absurd e3 r⟩, fun r => absurd he36 r⟩
      | some p =>
        rw [hfd] at hcp2
        obtain ⟨hp, hpi, hpl⟩ := fndD_some _ _ hfd
        have hgi := (hpd p hp).mp hpi
        have h8 := (g5 _ (List.getElem_mem hp)).1
        have hk : (lg 0)[p]? = some (lg 0)[p] := List.getElem?_eq_getElem hp
        have hpw := List.pairwise_iff_getElem.mp g6
        have hin : idl (iP fz 0 m) (fun e => m 37 (8 * 0 + e)) none 0 8 = some (lg 0)[p] := by
          have hgP : iP fz 0 m (lg 0)[p] = true := (hiP _ h8).mpr ⟨List.getElem_mem hp, hgi⟩
          cases hc : idl (iP fz 0 m) (fun e => m 37 (8 * 0 + e)) none 0 8 with
          | none =>
            rw [hids.2 hc _ h8] at hgP
            cases hgP
          | some a =>
            obtain ⟨r1, r2, r3⟩ := hids.1 a hc
            obtain ⟨ra, rb⟩ := (hiP a r1).mp r2
            obtain ⟨k, hk1, hk2⟩ := List.getElem_of_mem ra
            have hle := r3 _ h8 hgP
            have hkp : k = p := by
              rcases Nat.lt_trichotomy k p with c | c | c
              · have := hpw k p hk1 hp c
                rw [hk2] at this
                omega
              · exact c
              · have h2 := hpl k c hk1
                have h3 := (hpd k hk1).mpr (by rw [hk2]; exact rb)
                rw [h2] at h3
                cases h3
            subst hkp
            rw [← hk2]
        have eid : B_M_idle fz (nI 0) m = nI (lg 0)[p] := by rw [cid.2, hin]; rfl
        have hge : 0 ≤ B_M_idle fz (nI 0) m := by rw [eid]; exact nI_pos' (by omega)
        have hxg : ix (nI (8 * 0 + (lg 0)[p])) = 8 * 0 + (lg 0)[p] := nI_clamp (by omega)
        have hvg : vp_in (nI (8 * 0 + (lg 0)[p])) 16 := vp_in_nI (by omega) (by decide)
        refine Or.inl ⟨p, (lg 0)[p], 0, u2 m 36 (8 * 0 + (lg 0)[p]) 0, by omega, by omega, h8, ⟨hcp.1, hcp2⟩, put_front (i := 1) (b := 0) hGG (by decide) he0 h8 (by omega) (by omega) (fun r => absurd r hout) (fun e he hee => ?_), rfl, fun c hc => u2_i m _ _ hc, fun K => ?_, fun K hK => ?_⟩
        · by_cases c : e = (lg 0)[p]
          · rw [c, u2_s]
            have : ¬ ((lg 0)[p] ∈ lg 0 ∧ (lg 0)[p]? ≠ some (lg 0)[p]) := fun r => r.2 hk
            rw [decide_eq_false this]
            rfl
          · rw [u2_k m 0 36 (show 8 * 0 + e ≠ 8 * 0 + (lg 0)[p] by omega), (g4 e he).1]
            congr 1
            rw [decide_eq_decide]
            exact ⟨fun r => ⟨r, fun q => c (Option.some.inj (q.symm.trans hk))⟩, fun r => r.1⟩
        · rw [wLM, if_pos he36, if_pos e3, if_pos hge, eid, x8, hxg]
        · refine ⟨fun _ => ⟨i1.1, fun _ => ⟨cid.1, fun _ => ?_, fun r => absurd hge r⟩, fun r => absurd e3 r⟩, fun r => absurd he36 r⟩
          rw [eid, x8, hxg]
          exact ⟨hvg, hK⟩
theorem wlog_1 (fz : Nat) (hz : 400 ≤ fz) {n : Nat} {own blk ep ft : Nat → Nat} {sc : HH} {lk gr : Int32} {mp un : Nat → Nat → Bool} {q : Nat → List MSG} {wt : Nat → List Nat} {wx : Nat → Bool} {lg : Nat → List Nat} {us : Nat → Nat → Nat} {pv : Nat → Nat} {v m : HH} (hR : Rel n own blk ep ft sc lk gr mp un q wt wx lg us pv (v) (m)) (iT : IT n own blk ep ft) {e0 : Nat} (he0 : e0 < 8) : (∃ (p g : Nat) (y : Int32) (mG : HH), p < 3 ∧ p ≤ (lg 1).length ∧ g < 8 ∧ (P_E_placeFor fz 11 (nI e0) (B_T_pendingBlocks fz (nI 1) v) v ∧ B_E_placeFor fz 11 (nI e0) (B_T_pendingBlocks fz (nI 1) v) v = nI p) ∧ (GG 1 (n + 1) (e0 :: (lg 1).eraseIdx p) (ug (us 1) e0 (n + 1)) (nI (e0 :: (lg 1).eraseIdx p).length) (pfr 11 (nI e0) p v 14) (u2 (u2 m 36 (8 * 1 + g) y) 36 (8 * 1 + e0) 1 36) (u2 m 37 (8 * 1 + e0) (nI (n + 1)) 37)) ∧ u2 mG 36 (8 * 1 + e0) 1 = u2 (u2 m 36 (8 * 1 + g) y) 36 (8 * 1 + e0) 1 ∧ (∀ c, c ≠ 36 → mG c = m c) ∧ (∀ K, wLM fz 1 e0 m K = K mG) ∧ (∀ K : HH → Prop, K mG → wLP fz 1 e0 m K)) ∨ ((P_E_placeFor fz 11 (nI e0) (B_T_pendingBlocks fz (nI 1) v) v ∧ B_E_placeFor fz 11 (nI e0) (B_T_pendingBlocks fz (nI 1) v) v = -1) ∧ (∀ K, wLM fz 1 e0 m K = (-5, m)) ∧ (∀ K : HH → Prop, wLP fz 1 e0 m K)) := by
  obtain ⟨hL, hT, hX, hS0, hM0, hD0, hR0, hA0, hW0, hG0, hU0, hE0, hS1, hM1, hD1, hR1, hA1, hW1, hG1, hU1, hE1⟩ := hR
  have hn := iT.1
  have hGG := hG1
  obtain ⟨g1, g2, g3, g4, g5, g6⟩ := hG1
  have nd : (lg 1).Nodup := g6.imp (fun {a b} (r : us 1 b < us 1 a) (h : a = b) => by rw [h] at r; exact Nat.lt_irrefl _ r)
  have hcp := cv_placeFor fz hz 11 (nI e0) (B_T_pendingBlocks fz (nI 1) v) v (s := (lg 1).length) g1 g2
  have i1 := cv_inLog fz hz (b := 1) (by decide) m
  have hcnt : cn (fun i => !decide (m 36 (8 * 1 + i) = 0)) 0 8 = (lg 1).length := by
    refine cn_len nd (fun x => ?_)
    constructor
    · intro hx
      have h8 := (g5 x hx).1
      refine ⟨⟨Nat.zero_le _, by omega⟩, ?_⟩
      rw [(g4 x h8).1]
      simp [hx, bi]
    · rintro ⟨⟨_, h8⟩, hp⟩
      rw [(g4 x (by omega)).1] at hp
      by_cases c : x ∈ lg 1
      · exact c
      · simp [c, bi] at hp
  rw [hcnt] at i1
  have hmem := (g4 e0 he0).1
  cases hf : fnd (fun p => decide (v (11 + 3) p = nI e0)) 0 (lg 1).length with
  | some p =>
    rw [hf] at hcp
    obtain ⟨-, hp, hpe, -⟩ := fnd_some _ _ _ hf
    have hpl : p < (lg 1).length := by omega
    have hk : (lg 1)[p]? = some e0 := by
      have h1 : v (11 + 3) p = nI (lg 1)[p] := g3 p _ (List.getElem?_eq_getElem hpl)
      have h2 := of_decide_eq_true hpe
      have h8 := (g5 _ (List.getElem_mem hpl)).1
      have : (lg 1)[p] = e0 := (nI_eq (by omega) (by omega)).mp (h1.symm.trans h2)
      rw [List.getElem?_eq_getElem hpl, this]
    have hin : e0 ∈ lg 1 := List.mem_of_getElem? hk
    have hne : ¬ m 36 (8 * 1 + e0) = 0 := by rw [hmem]; simp [hin, bi]
    refine Or.inl ⟨p, e0, 1, m, by omega, by omega, he0, hcp, put_front (i := 11) (b := 1) hGG (by decide) he0 he0 (by omega) (by omega) (fun _ => hk) (fun e he hee => ?_), (u2_u2 _ _ _ _ _).symm, fun _ _ => rfl, fun K => ?_, fun K hK => ?_⟩
    · rw [u2_k m 1 36 (show 8 * 1 + e ≠ 8 * 1 + e0 by omega), (g4 e he).1]
      congr 1
      rw [decide_eq_decide]
      exact ⟨fun r => ⟨r, fun q => hee (Option.some.inj (q.symm.trans hk))⟩, fun r => r.1⟩
    · rw [wLM, if_neg hne]
    · exact ⟨fun r => absurd r hne, fun _ => hK⟩
  | none =>
    rw [hf] at hcp
    have hout : e0 ∉ lg 1 := fun r => by
      obtain ⟨k, hk1, hk2⟩ := List.getElem_of_mem r
      have h1 : v (11 + 3) k = nI (lg 1)[k] := g3 k _ (List.getElem?_eq_getElem hk1)
      have h2 := fnd_none _ _ hf k (Nat.zero_le _) (by omega)
      rw [h1, hk2] at h2
      simp at h2
    have he36 : m 36 (8 * 1 + e0) = 0 := by rw [hmem]; simp [hout, bi]
    by_cases h3 : (lg 1).length < 3
    · have hlen : (lg 1)[(lg 1).length]? = none := List.getElem?_eq_none (Nat.le_refl _)
      have n3 : ¬ B_M_inLog fz (nI 1) m = (3 : Int32) := fun r => by
        rw [i1.2, li3] at r
        have := (nI_eq (by omega) (by omega)).mp r
        omega
      have hcp2 : P_E_placeFor fz 11 (nI e0) (B_T_pendingBlocks fz (nI 1) v) v ∧ B_E_placeFor fz 11 (nI e0) (B_T_pendingBlocks fz (nI 1) v) v = nI (lg 1).length := ⟨hcp.1, hcp.2.trans (if_pos h3)⟩
      refine Or.inl ⟨(lg 1).length, e0, 1, m, h3, Nat.le_refl _, he0, hcp2, put_front (i := 11) (b := 1) hGG (by decide) he0 he0 h3 (Nat.le_refl _) (fun r => absurd r hout) (fun e he hee => ?_), (u2_u2 _ _ _ _ _).symm, fun _ _ => rfl, fun K => ?_, fun K hK => ?_⟩
      · rw [u2_k m 1 36 (show 8 * 1 + e ≠ 8 * 1 + e0 by omega), (g4 e he).1]
        congr 1
        rw [decide_eq_decide]
        exact ⟨fun r => ⟨r, fun q => by rw [hlen] at q; cases q⟩, fun r => r.1⟩
      · rw [wLM, if_pos he36, if_neg n3]
      · exact ⟨fun _ => ⟨i1.1, fun r => absurd r n3, fun _ => hK⟩, fun r => absurd he36 r⟩
    · have h33 : (lg 1).length = 3 := by omega
      have e3 : B_M_inLog fz (nI 1) m = (3 : Int32) := by rw [i1.2, h33]; exact li3.symm
      have cid := cv_idle fz hz (b := 1) (by decide) m (fun e he => (extM fz hz hT iT (b := 1) (by decide) he).1)
      have hiP : ∀ e, e < 8 → (iP fz 1 m e = true ↔ e ∈ lg 1 ∧ ¬ (∃ w, (1 ≤ w ∧ w ≤ n) ∧ own w = 1 ∧ ft w = 1 ∧ blk w / 4 = e)) := by
        intro e he
        have hx := (extM fz hz hT iT (b := 1) (by decide) he).2
        unfold iP
        rw [Bool.and_eq_true, decide_eq_true_iff, hx, (g4 e he).1]
        constructor
        · rintro ⟨r1, r2⟩
          refine ⟨?_, r2⟩
          by_cases c : e ∈ lg 1
          · exact c
          · simp [c, bi] at r1
        · rintro ⟨r1, r2⟩
          exact ⟨by simp [r1, bi], r2⟩
      have hids := idl_spec (p := iP fz 1 m) (us := fun e => m 37 (8 * 1 + e)) (u := us 1) (fun e he hp => ⟨(g4 e he).2, by
        have := (g5 e ((hiP e he).mp hp).1).2
        omega⟩) 8 0 none (by omega) (fun a ha => by cases ha) (fun _ x hx => by omega)
      have hcp2 : B_E_placeFor fz 11 (nI e0) (B_T_pendingBlocks fz (nI 1) v) v = oi (fndD (fun p => decide (B_V_blocksOfExtent fz (v (11 + 3) p) v &&& B_T_pendingBlocks fz (nI 1) v = 0)) (lg 1).length) := hcp.2.trans (if_neg h3)
      have hpd : ∀ p, (hp : p < (lg 1).length) → (decide (B_V_blocksOfExtent fz (v (11 + 3) p) v &&& B_T_pendingBlocks fz (nI 1) v = 0) = true ↔ ¬ (∃ w, (1 ≤ w ∧ w ≤ n) ∧ own w = 1 ∧ ft w = 1 ∧ blk w / 4 = (lg 1)[p])) := by
        intro p hp
        have h1 : v (11 + 3) p = nI (lg 1)[p] := g3 p _ (List.getElem?_eq_getElem hp)
        rw [h1, decide_eq_true_iff]
        exact extV fz hz hT iT (b := 1) (by decide) (g5 _ (List.getElem_mem hp)).1
      cases hfd : fndD (fun p => decide (B_V_blocksOfExtent fz (v (11 + 3) p) v &&& B_T_pendingBlocks fz (nI 1) v = 0)) (lg 1).length with
      | none =>
        rw [hfd] at hcp2
        have hall : ∀ e, e < 8 → iP fz 1 m e = false := by
          intro e he
          cases hc : iP fz 1 m e with
          | false => rfl
          | true =>
            obtain ⟨r1, r2⟩ := (hiP e he).mp hc
            obtain ⟨k, hk1, hk2⟩ := List.getElem_of_mem r1
            have h2 := fndD_none _ hfd k hk1
            have h3 := (hpd k hk1).mpr (by rw [hk2]; exact r2)
            rw [h2] at h3
            cases h3
        have hin : idl (iP fz 1 m) (fun e => m 37 (8 * 1 + e)) none 0 8 = none := by
          cases hc : idl (iP fz 1 m) (fun e => m 37 (8 * 1 + e)) none 0 8 with
          | none => rfl
          | some a =>
            obtain ⟨r1, r2, -⟩ := hids.1 a hc
            rw [hall a r1] at r2
            cases r2
        have em1 : B_M_idle fz (nI 1) m = -1 := by rw [cid.2, hin]; rfl
        have nle : ¬ 0 ≤ B_M_idle fz (nI 1) m := by rw [em1]; decide
        refine Or.inr ⟨⟨hcp.1, hcp2⟩, fun K => ?_, fun K => ?_⟩
        · rw [wLM, if_pos he36, if_pos e3, if_neg nle]
        · exact ⟨fun _ => ⟨i1.1, fun _ => ⟨cid.1, fun r => absurd r nle, fun _ => trivial⟩, fun r => absurd e3 r⟩, fun r => absurd he36 r⟩
      | some p =>
        rw [hfd] at hcp2
        obtain ⟨hp, hpi, hpl⟩ := fndD_some _ _ hfd
        have hgi := (hpd p hp).mp hpi
        have h8 := (g5 _ (List.getElem_mem hp)).1
        have hk : (lg 1)[p]? = some (lg 1)[p] := List.getElem?_eq_getElem hp
        have hpw := List.pairwise_iff_getElem.mp g6
        have hin : idl (iP fz 1 m) (fun e => m 37 (8 * 1 + e)) none 0 8 = some (lg 1)[p] := by
          have hgP : iP fz 1 m (lg 1)[p] = true := (hiP _ h8).mpr ⟨List.getElem_mem hp, hgi⟩
          cases hc : idl (iP fz 1 m) (fun e => m 37 (8 * 1 + e)) none 0 8 with
          | none =>
            rw [hids.2 hc _ h8] at hgP
            cases hgP
          | some a =>
            obtain ⟨r1, r2, r3⟩ := hids.1 a hc
            obtain ⟨ra, rb⟩ := (hiP a r1).mp r2
            obtain ⟨k, hk1, hk2⟩ := List.getElem_of_mem ra
            have hle := r3 _ h8 hgP
            have hkp : k = p := by
              rcases Nat.lt_trichotomy k p with c | c | c
              · have := hpw k p hk1 hp c
                rw [hk2] at this
                omega
              · exact c
              · have h2 := hpl k c hk1
                have h3 := (hpd k hk1).mpr (by rw [hk2]; exact rb)
                rw [h2] at h3
                cases h3
            subst hkp
            rw [← hk2]
        have eid : B_M_idle fz (nI 1) m = nI (lg 1)[p] := by rw [cid.2, hin]; rfl
        have hge : 0 ≤ B_M_idle fz (nI 1) m := by rw [eid]; exact nI_pos' (by omega)
        have hxg : ix (nI (8 * 1 + (lg 1)[p])) = 8 * 1 + (lg 1)[p] := nI_clamp (by omega)
        have hvg : vp_in (nI (8 * 1 + (lg 1)[p])) 16 := vp_in_nI (by omega) (by decide)
        refine Or.inl ⟨p, (lg 1)[p], 0, u2 m 36 (8 * 1 + (lg 1)[p]) 0, by omega, by omega, h8, ⟨hcp.1, hcp2⟩, put_front (i := 11) (b := 1) hGG (by decide) he0 h8 (by omega) (by omega) (fun r => absurd r hout) (fun e he hee => ?_), rfl, fun c hc => u2_i m _ _ hc, fun K => ?_, fun K hK => ?_⟩
        · by_cases c : e = (lg 1)[p]
          · rw [c, u2_s]
            have : ¬ ((lg 1)[p] ∈ lg 1 ∧ (lg 1)[p]? ≠ some (lg 1)[p]) := fun r => r.2 hk
            rw [decide_eq_false this]
            rfl
          · rw [u2_k m 0 36 (show 8 * 1 + e ≠ 8 * 1 + (lg 1)[p] by omega), (g4 e he).1]
            congr 1
            rw [decide_eq_decide]
            exact ⟨fun r => ⟨r, fun q => c (Option.some.inj (q.symm.trans hk))⟩, fun r => r.1⟩
        · rw [wLM, if_pos he36, if_pos e3, if_pos hge, eid, x8, hxg]
        · refine ⟨fun _ => ⟨i1.1, fun _ => ⟨cid.1, fun _ => ?_, fun r => absurd hge r⟩, fun r => absurd e3 r⟩, fun r => absurd he36 r⟩
          rw [eid, x8, hxg]
          exact ⟨hvg, hK⟩
