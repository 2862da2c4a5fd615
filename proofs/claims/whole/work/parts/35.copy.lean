theorem cn_list {p : Nat → Bool} {f : MSG → Bool} : ∀ (l : List MSG) (s : Nat), (∀ k a, l[k]? = some a → p (s + k) = f a) → cn p s l.length = (l.filter f).length
  | [], s, _ => rfl
  | a :: l, s, h => by
    have h0 := h 0 a rfl
    have ih := cn_list (p := p) (f := f) l (s + 1) (fun k b hk => by
      have := h (k + 1) b hk
      rw [show s + (k + 1) = s + 1 + k by omega] at this
      exact this)
    rw [Nat.add_zero] at h0
    rw [List.length_cons, cn, ih, h0, List.filter_cons]
    cases f a
    · simp
    · simp [Nat.add_comm]
theorem fwd_1 : ∀ l : List MSG, ((fwd l).filter (fun x => x.1 == 1)).length = (l.filter (fun a => decide (a.1 = 3))).length
  | [] => rfl
  | a :: l => by
    have ih := fwd_1 l
    unfold fwd at ih ⊢
    rw [List.filterMap_cons, List.filter_cons]
    by_cases h1 : a.1 = 1
    · simp [h1]
      exact ih
    · by_cases h3 : a.1 = 3
      · simp [h3]
        exact ih
      · simp [h1, h3]
        exact ih
theorem bck_1 : ∀ l : List MSG, ((bck l).filter (fun x => x.1 == 1)).length = (l.filter (fun a => decide (a.1 = 4))).length
  | [] => rfl
  | a :: l => by
    have ih := bck_1 l
    unfold bck at ih ⊢
    rw [List.filterMap_cons, List.filter_cons]
    by_cases h1 : a.1 = 2
    · simp [h1]
      exact ih
    · by_cases h3 : a.1 = 4
      · simp [h3]
        exact ih
      · simp [h1, h3]
        exact ih
theorem wmp_1 (l : List Nat) : (wmp l).filter (fun x => x.1 == 1) = [] := by
  rw [List.filter_eq_nil_iff]
  intro x hx h
  obtain ⟨y, _, rfl⟩ := List.mem_map.mp hx
  exact absurd h (by decide : ¬ ((0 : Nat) == 1) = true)
theorem PL_1 (qo qb : List MSG) (wo : List Nat) : ((PL qo wo qb).filter (fun x => x.1 == 1)).length = (qb.filter (fun a => decide (a.1 = 3))).length + (qo.filter (fun a => decide (a.1 = 4))).length := by
  unfold PL
  rw [List.filter_append, List.filter_append, List.length_append, List.length_append, wmp_1, fwd_1, bck_1, List.length_nil]
  omega
theorem fwd_mem {l : List MSG} {j : Nat} : (1, j) ∈ fwd l ↔ ∃ a, a ∈ l ∧ a.1 = 3 ∧ a.2.1 = j := by
  unfold fwd
  rw [List.mem_filterMap]
  constructor
  · rintro ⟨a, ha, h⟩
    by_cases h1 : a.1 = 1
    · rw [if_pos h1] at h
      exact absurd (Prod.mk.inj (Option.some.inj h)).1 (by decide)
    · rw [if_neg h1] at h
      by_cases h3 : a.1 = 3
      · rw [if_pos h3] at h
        exact ⟨a, ha, h3, (Prod.mk.inj (Option.some.inj h)).2⟩
      · rw [if_neg h3] at h
        cases h
  · rintro ⟨a, ha, h3, rfl⟩
    exact ⟨a, ha, by rw [if_neg (by omega), if_pos h3]⟩
theorem bck_mem {l : List MSG} {j : Nat} : (1, j) ∈ bck l ↔ ∃ a, a ∈ l ∧ a.1 = 4 ∧ a.2.1 = j := by
  unfold bck
  rw [List.mem_filterMap]
  constructor
  · rintro ⟨a, ha, h⟩
    by_cases h1 : a.1 = 2
    · rw [if_pos h1] at h
      exact absurd (Prod.mk.inj (Option.some.inj h)).1 (by decide)
    · rw [if_neg h1] at h
      by_cases h3 : a.1 = 4
      · rw [if_pos h3] at h
        exact ⟨a, ha, h3, (Prod.mk.inj (Option.some.inj h)).2⟩
      · rw [if_neg h3] at h
        cases h
  · rintro ⟨a, ha, h3, rfl⟩
    exact ⟨a, ha, by rw [if_neg (by omega), if_pos h3]⟩
theorem PL_mem1 {qo qb : List MSG} {wo : List Nat} {j : Nat} : (1, j) ∈ PL qo wo qb ↔ ((∃ a, a ∈ qb ∧ a.1 = 3 ∧ a.2.1 = j) ∨ ∃ a, a ∈ qo ∧ a.1 = 4 ∧ a.2.1 = j) := by
  unfold PL
  rw [List.mem_append, List.mem_append, bck_mem, fwd_mem]
  constructor
  · rintro (h | h | h)
    · exact Or.inr h
    · obtain ⟨y, _, hy⟩ := List.mem_map.mp h
      exact absurd (Prod.mk.inj hy).1 (by decide)
    · exact Or.inl h
  · rintro (h | h)
    · exact Or.inr (Or.inr h)
    · exact Or.inl h
theorem IN.w1 {n : Nat} {own blk ft : Nat → Nat} {b : Nat} {src : Int32} {mpb unb : Nat → Bool} {L : List (Nat × Nat)} (h : IN n own blk ft b src mpb unb L) {f : Nat → Bool} (hf : ∀ j, j < 32 → f j = unb j) : cn f 0 32 = (L.filter (fun x => x.1 == 1)).length := by
  obtain ⟨h1, h2, h3, h4, h5, h6, h7, h8⟩ := h
  have e : ((L.filter (fun x => x.1 == 1)).map (fun x => x.2)).length = (L.filter (fun x => x.1 == 1)).length := List.length_map _
  rw [← e]
  apply cn_len
  · rw [List.nodup_iff_pairwise_ne, List.pairwise_map]
    refine List.Pairwise.imp_of_mem ?_ (List.Pairwise.filter _ h1)
    intro x y hx hy hxy he
    have hx0 : x.1 = 1 := by simpa using (List.mem_filter.mp hx).2
    have hy0 : y.1 = 1 := by simpa using (List.mem_filter.mp hy).2
    exact hxy (Prod.ext (hx0.trans hy0.symm) he)
  · intro w
    rw [List.mem_map]
    constructor
    · rintro ⟨x, hx, rfl⟩
      obtain ⟨hx1, hx2⟩ := List.mem_filter.mp hx
      have hx0 : x.1 = 1 := by simpa using hx2
      have hm : (1, x.2) ∈ L := by rw [← hx0]; exact hx1
      have hj := (h4 x.2 hm).1
      exact ⟨⟨Nat.zero_le _, by omega⟩, by rw [hf _ hj]; exact (h7 _ hj).mpr hm⟩
    · rintro ⟨⟨_, g2⟩, g3⟩
      rw [hf w (by omega)] at g3
      exact ⟨(1, w), List.mem_filter.mpr ⟨(h7 w (by omega)).mp g3, rfl⟩, rfl⟩
theorem IN.len3 {n : Nat} {own blk ft : Nat → Nat} {b : Nat} {src : Int32} {mpb unb : Nat → Bool} {L : List (Nat × Nat)} (h : IN n own blk ft b src mpb unb L) : L.length ≤ (L.filter (fun x => x.1 == 1)).length + 8 := by
  have h0 := h.len.2
  obtain ⟨h1, h2, -⟩ := h
  have e : L.length = (L.filter (fun x => x.1 == 1)).length + (L.filter (fun x => x.1 == 0)).length := by
    clear h1 h0
    induction L with
    | nil => rfl
    | cons x L ih =>
      have ih := ih (fun y hy => h2 y (List.mem_cons_of_mem _ hy))
      have hx := h2 x List.mem_cons_self
      rw [List.length_cons, List.filter_cons, List.filter_cons]
      rcases (show x.1 = 0 ∨ x.1 = 1 by omega) with e | e <;> simp [e] <;> omega
  omega
theorem otw_0 {n : Nat} {own blk ep ft : Nat → Nat} {sc : HH} {lk gr : Int32} {mp un : Nat → Nat → Bool} {q : Nat → List MSG} {wt : Nat → List Nat} {wx : Nat → Bool} {lg : Nat → List Nat} {us : Nat → Nat → Nat} {pv : Nat → Nat} {v m : HH} (fz : Nat) (hz : 400 ≤ fz) (hR : Rel n own blk ep ft sc lk gr mp un q wt wx lg us pv (v) (m)) (hq : ∀ a, a ∈ q 0 → 1 ≤ a.1 ∧ a.1 ≤ 5) (hs : ∀ a, a ∈ q 0 → a.1 = 3 ∨ a.1 = 4 → a.2.1 < 32) {k : Nat} (hk : k = 3 ∨ k = 4) {xk : Int32} (ek : xk = nI k) : (P_M_onTheWay fz (nI 0) xk (-1) m ∧ B_M_onTheWay fz (nI 0) xk (-1) m = nI ((q 0).filter (fun a => decide (a.1 = k))).length) ∧ ∀ j, j < 32 → P_M_onTheWay fz (nI 0) xk (nI j) m ∧ B_M_onTheWay fz (nI 0) xk (nI j) m = nI ((q 0).filter (fun a => decide (a.1 = k ∧ a.2.1 = j))).length := by
  subst ek
  obtain ⟨hL, hT, hX, hS0, hM0, hD0, hR0, hA0, hW0, hG0, hU0, hE0, hS1, hM1, hD1, hR1, hA1, hW1, hG1, hU1, hE1⟩ := hR
  obtain ⟨g, g1, g2, g3, g4, g5⟩ := hR0
  obtain ⟨c1, c2⟩ := hA0
  refine ⟨?_, fun j hj => ?_⟩
  · have c := cv_onTheWay fz hz (b := 0) (by decide) (nI k) (-1) m g2 c1
    refine ⟨c.1, c.2.trans (congrArg nI (cn_list (q 0) 0 (fun i a hi => ?_)))⟩
    obtain ⟨d1, d2, d3⟩ := c2 i a hi
    have hka := hq a (List.mem_of_getElem? hi)
    have k1 : nI a.1 = nI k ↔ a.1 = k := nI_eq (by omega) (by omega)
    rw [Nat.zero_add, d1]
    have m1 : (-1 : Int32) < 0 := by decide
    simp only [k1, m1, true_or, and_true]
  · have c := cv_onTheWay fz hz (b := 0) (by decide) (nI k) (nI j) m g2 c1
    refine ⟨c.1, c.2.trans (congrArg nI (cn_list (q 0) 0 (fun i a hi => ?_)))⟩
    obtain ⟨d1, d2, d3⟩ := c2 i a hi
    have hka := hq a (List.mem_of_getElem? hi)
    have k1 : nI a.1 = nI k ↔ a.1 = k := nI_eq (by omega) (by omega)
    have m1 : ¬ nI j < 0 := nI_pos (by omega)
    rw [Nat.zero_add, d1, d2]
    simp only [k1, m1, false_or]
    by_cases ck : a.1 = k
    · have h5 : ¬ a.1 = 5 := by omega
      have hsa := hs a (List.mem_of_getElem? hi) (by omega)
      have k2 : nI a.2.1 = nI j ↔ a.2.1 = j := nI_eq (by omega) (by omega)
      simp only [sbj, h5, if_false, k2]
    · simp only [ck, false_and]
theorem otw_1 {n : Nat} {own blk ep ft : Nat → Nat} {sc : HH} {lk gr : Int32} {mp un : Nat → Nat → Bool} {q : Nat → List MSG} {wt : Nat → List Nat} {wx : Nat → Bool} {lg : Nat → List Nat} {us : Nat → Nat → Nat} {pv : Nat → Nat} {v m : HH} (fz : Nat) (hz : 400 ≤ fz) (hR : Rel n own blk ep ft sc lk gr mp un q wt wx lg us pv (v) (m)) (hq : ∀ a, a ∈ q 1 → 1 ≤ a.1 ∧ a.1 ≤ 5) (hs : ∀ a, a ∈ q 1 → a.1 = 3 ∨ a.1 = 4 → a.2.1 < 32) {k : Nat} (hk : k = 3 ∨ k = 4) {xk : Int32} (ek : xk = nI k) : (P_M_onTheWay fz (nI 1) xk (-1) m ∧ B_M_onTheWay fz (nI 1) xk (-1) m = nI ((q 1).filter (fun a => decide (a.1 = k))).length) ∧ ∀ j, j < 32 → P_M_onTheWay fz (nI 1) xk (nI j) m ∧ B_M_onTheWay fz (nI 1) xk (nI j) m = nI ((q 1).filter (fun a => decide (a.1 = k ∧ a.2.1 = j))).length := by
  subst ek
  obtain ⟨hL, hT, hX, hS0, hM0, hD0, hR0, hA0, hW0, hG0, hU0, hE0, hS1, hM1, hD1, hR1, hA1, hW1, hG1, hU1, hE1⟩ := hR
  obtain ⟨g, g1, g2, g3, g4, g5⟩ := hR1
  obtain ⟨c1, c2⟩ := hA1
  refine ⟨?_, fun j hj => ?_⟩
  · have c := cv_onTheWay fz hz (b := 1) (by decide) (nI k) (-1) m g2 c1
    refine ⟨c.1, c.2.trans (congrArg nI (cn_list (q 1) 0 (fun i a hi => ?_)))⟩
    obtain ⟨d1, d2, d3⟩ := c2 i a hi
    have hka := hq a (List.mem_of_getElem? hi)
    have k1 : nI a.1 = nI k ↔ a.1 = k := nI_eq (by omega) (by omega)
    rw [Nat.zero_add, d1]
    have m1 : (-1 : Int32) < 0 := by decide
    simp only [k1, m1, true_or, and_true]
  · have c := cv_onTheWay fz hz (b := 1) (by decide) (nI k) (nI j) m g2 c1
    refine ⟨c.1, c.2.trans (congrArg nI (cn_list (q 1) 0 (fun i a hi => ?_)))⟩
    obtain ⟨d1, d2, d3⟩ := c2 i a hi
    have hka := hq a (List.mem_of_getElem? hi)
    have k1 : nI a.1 = nI k ↔ a.1 = k := nI_eq (by omega) (by omega)
    have m1 : ¬ nI j < 0 := nI_pos (by omega)
    rw [Nat.zero_add, d1, d2]
    simp only [k1, m1, false_or]
    by_cases ck : a.1 = k
    · have h5 : ¬ a.1 = 5 := by omega
      have hsa := hs a (List.mem_of_getElem? hi) (by omega)
      have k2 : nI a.2.1 = nI j ↔ a.2.1 = j := nI_eq (by omega) (by omega)
      simp only [sbj, h5, if_false, k2]
    · simp only [ck, false_and]
theorem uw_0 {n : Nat} {own blk ep ft : Nat → Nat} {sc : HH} {lk gr : Int32} {mp un : Nat → Nat → Bool} {q : Nat → List MSG} {wt : Nat → List Nat} {wx : Nat → Bool} {lg : Nat → List Nat} {us : Nat → Nat → Nat} {pv : Nat → Nat} {v m : HH} {t : Nat} (fz : Nat) (hz : 400 ≤ fz) (hR : Rel n own blk ep ft sc lk gr mp un q wt wx lg us pv (v) (m)) (hI : Inv t n own blk ep ft sc lk gr mp un q wt wx pv) : (P_M_underWay fz (nI 0) (-1) m ∧ B_M_underWay fz (nI 0) (-1) m = nI ((PL (q 1) (wt 1) (q 0)).filter (fun x => x.1 == 1)).length) ∧ ∃ U : Nat → Nat, ∀ j, j < 32 → (P_M_underWay fz (nI 0) (nI j) m ∧ B_M_underWay fz (nI 0) (nI j) m = nI (U j) ∧ U j < 1000) ∧ (U j = 0 ↔ un 0 j = false) := by
  obtain ⟨iT, iG, iN0, iN1, iQ0, iQ1, iR0, iR1, iW, iC, iK, iE⟩ := hI
  have hl0 := q25 iQ0 (by have := iN0.both; omega) (by have := iN1.both; omega)
  have hl1 := q25 iQ1 (by have := iN1.both; omega) (by have := iN0.both; omega)
  have sb : ∀ a, a ∈ q 0 → a.1 = 3 ∨ a.1 = 4 → a.2.1 < 32 := by
    intro a ha h
    rcases h with h | h
    · exact (iN0.2.2.2.1 a.2.1 (PL_mem1.mpr (Or.inl ⟨a, ha, h, rfl⟩))).1
    · exact (iN1.2.2.2.1 a.2.1 (PL_mem1.mpr (Or.inr ⟨a, ha, h, rfl⟩))).1
  have so : ∀ a, a ∈ q 1 → a.1 = 3 ∨ a.1 = 4 → a.2.1 < 32 := by
    intro a ha h
    rcases h with h | h
    · exact (iN1.2.2.2.1 a.2.1 (PL_mem1.mpr (Or.inl ⟨a, ha, h, rfl⟩))).1
    · exact (iN0.2.2.2.1 a.2.1 (PL_mem1.mpr (Or.inr ⟨a, ha, h, rfl⟩))).1
  obtain ⟨⟨a1, a2⟩, a3⟩ := otw_0 fz hz hR iQ0.1 sb (k := 3) (Or.inl rfl) li3
  obtain ⟨⟨b1, b2⟩, b3⟩ := otw_1 fz hz hR iQ1.1 so (k := 4) (Or.inr rfl) li4
  refine ⟨⟨?_, ?_⟩, fun j => ((q 0).filter (fun a => decide (a.1 = 3 ∧ a.2.1 = j))).length + ((q 1).filter (fun a => decide (a.1 = 4 ∧ a.2.1 = j))).length, fun j hj => ⟨⟨?_, ?_, ?_⟩, ?_⟩⟩
  · simp only [P_M_underWay, om_0, a1, b1, and_true]
  · rw [B_M_underWay, om_0, a2, b2, nI_add, PL_1]
  · simp only [P_M_underWay, om_0, (a3 j hj).1, (b3 j hj).1, and_true]
  · rw [B_M_underWay, om_0, (a3 j hj).2, (b3 j hj).2, nI_add]
  · dsimp only
    have h1 := List.length_filter_le (fun a : MSG => decide (a.1 = 3 ∧ a.2.1 = j)) (q 0)
    have h2 := List.length_filter_le (fun a : MSG => decide (a.1 = 4 ∧ a.2.1 = j)) (q 1)
    omega
  · have hu := iN0.2.2.2.2.2.2.1 j hj
    dsimp only
    constructor
    · intro h0
      cases hc : un 0 j with
      | false => rfl
      | true =>
        exfalso
        rcases PL_mem1.mp (hu.mp hc) with ⟨a, ha, h3, h4⟩ | ⟨a, ha, h3, h4⟩
        · have := List.length_pos_of_mem (List.mem_filter.mpr ⟨ha, decide_eq_true ⟨h3, h4⟩⟩ : a ∈ (q 0).filter (fun a => decide (a.1 = 3 ∧ a.2.1 = j)))
          omega
        · have := List.length_pos_of_mem (List.mem_filter.mpr ⟨ha, decide_eq_true ⟨h3, h4⟩⟩ : a ∈ (q 1).filter (fun a => decide (a.1 = 4 ∧ a.2.1 = j)))
          omega
    · intro h0
      have e1 : (q 0).filter (fun a => decide (a.1 = 3 ∧ a.2.1 = j)) = [] := by
        rw [List.filter_eq_nil_iff]
        intro a ha h
        have := of_decide_eq_true h
        rw [hu.mpr (PL_mem1.mpr (Or.inl ⟨a, ha, this.1, this.2⟩))] at h0
        cases h0
      have e2 : (q 1).filter (fun a => decide (a.1 = 4 ∧ a.2.1 = j)) = [] := by
        rw [List.filter_eq_nil_iff]
        intro a ha h
        have := of_decide_eq_true h
        rw [hu.mpr (PL_mem1.mpr (Or.inr ⟨a, ha, this.1, this.2⟩))] at h0
        cases h0
      rw [e1, e2]
      rfl
theorem uw_1 {n : Nat} {own blk ep ft : Nat → Nat} {sc : HH} {lk gr : Int32} {mp un : Nat → Nat → Bool} {q : Nat → List MSG} {wt : Nat → List Nat} {wx : Nat → Bool} {lg : Nat → List Nat} {us : Nat → Nat → Nat} {pv : Nat → Nat} {v m : HH} {t : Nat} (fz : Nat) (hz : 400 ≤ fz) (hR : Rel n own blk ep ft sc lk gr mp un q wt wx lg us pv (v) (m)) (hI : Inv t n own blk ep ft sc lk gr mp un q wt wx pv) : (P_M_underWay fz (nI 1) (-1) m ∧ B_M_underWay fz (nI 1) (-1) m = nI ((PL (q 0) (wt 0) (q 1)).filter (fun x => x.1 == 1)).length) ∧ ∃ U : Nat → Nat, ∀ j, j < 32 → (P_M_underWay fz (nI 1) (nI j) m ∧ B_M_underWay fz (nI 1) (nI j) m = nI (U j) ∧ U j < 1000) ∧ (U j = 0 ↔ un 1 j = false) := by
  obtain ⟨iT, iG, iN0, iN1, iQ0, iQ1, iR0, iR1, iW, iC, iK, iE⟩ := hI
  have hl0 := q25 iQ0 (by have := iN0.both; omega) (by have := iN1.both; omega)
  have hl1 := q25 iQ1 (by have := iN1.both; omega) (by have := iN0.both; omega)
  have sb : ∀ a, a ∈ q 1 → a.1 = 3 ∨ a.1 = 4 → a.2.1 < 32 := by
    intro a ha h
    rcases h with h | h
    · exact (iN1.2.2.2.1 a.2.1 (PL_mem1.mpr (Or.inl ⟨a, ha, h, rfl⟩))).1
    · exact (iN0.2.2.2.1 a.2.1 (PL_mem1.mpr (Or.inr ⟨a, ha, h, rfl⟩))).1
  have so : ∀ a, a ∈ q 0 → a.1 = 3 ∨ a.1 = 4 → a.2.1 < 32 := by
    intro a ha h
    rcases h with h | h
    · exact (iN0.2.2.2.1 a.2.1 (PL_mem1.mpr (Or.inl ⟨a, ha, h, rfl⟩))).1
    · exact (iN1.2.2.2.1 a.2.1 (PL_mem1.mpr (Or.inr ⟨a, ha, h, rfl⟩))).1
  obtain ⟨⟨a1, a2⟩, a3⟩ := otw_1 fz hz hR iQ1.1 sb (k := 3) (Or.inl rfl) li3
  obtain ⟨⟨b1, b2⟩, b3⟩ := otw_0 fz hz hR iQ0.1 so (k := 4) (Or.inr rfl) li4
  refine ⟨⟨?_, ?_⟩, fun j => ((q 1).filter (fun a => decide (a.1 = 3 ∧ a.2.1 = j))).length + ((q 0).filter (fun a => decide (a.1 = 4 ∧ a.2.1 = j))).length, fun j hj => ⟨⟨?_, ?_, ?_⟩, ?_⟩⟩
  · simp only [P_M_underWay, om_1, a1, b1, and_true]
  · rw [B_M_underWay, om_1, a2, b2, nI_add, PL_1]
  · simp only [P_M_underWay, om_1, (a3 j hj).1, (b3 j hj).1, and_true]
  · rw [B_M_underWay, om_1, (a3 j hj).2, (b3 j hj).2, nI_add]
  · dsimp only
    have h1 := List.length_filter_le (fun a : MSG => decide (a.1 = 3 ∧ a.2.1 = j)) (q 1)
    have h2 := List.length_filter_le (fun a : MSG => decide (a.1 = 4 ∧ a.2.1 = j)) (q 0)
    omega
  · have hu := iN1.2.2.2.2.2.2.1 j hj
    dsimp only
    constructor
    · intro h0
      cases hc : un 1 j with
      | false => rfl
      | true =>
        exfalso
        rcases PL_mem1.mp (hu.mp hc) with ⟨a, ha, h3, h4⟩ | ⟨a, ha, h3, h4⟩
        · have := List.length_pos_of_mem (List.mem_filter.mpr ⟨ha, decide_eq_true ⟨h3, h4⟩⟩ : a ∈ (q 1).filter (fun a => decide (a.1 = 3 ∧ a.2.1 = j)))
          omega
        · have := List.length_pos_of_mem (List.mem_filter.mpr ⟨ha, decide_eq_true ⟨h3, h4⟩⟩ : a ∈ (q 0).filter (fun a => decide (a.1 = 4 ∧ a.2.1 = j)))
          omega
    · intro h0
      have e1 : (q 1).filter (fun a => decide (a.1 = 3 ∧ a.2.1 = j)) = [] := by
        rw [List.filter_eq_nil_iff]
        intro a ha h
        have := of_decide_eq_true h
        rw [hu.mpr (PL_mem1.mpr (Or.inl ⟨a, ha, this.1, this.2⟩))] at h0
        cases h0
      have e2 : (q 0).filter (fun a => decide (a.1 = 4 ∧ a.2.1 = j)) = [] := by
        rw [List.filter_eq_nil_iff]
        intro a ha h
        have := of_decide_eq_true h
        rw [hu.mpr (PL_mem1.mpr (Or.inr ⟨a, ha, this.1, this.2⟩))] at h0
        cases h0
      rw [e1, e2]
      rfl
theorem S_traffic (fz : Nat) (hz : 400 ≤ fz) {t : Nat} {v m : HH} (hJ : J2 t v m) (x : Int32) : P_V_traffic fz x v ∧ P_M_traffic fz x m ∧ B_V_traffic fz x v = B_M_traffic fz x m := by
  rcases ndc x with ⟨h0, h1⟩ | rfl | rfl
  · exact ⟨by simp only [P_V_traffic, pT_isNode, vN_n fz v h0 h1, eq_self, one0, if_true, if_false, not_true_eq_false, not_false_eq_true, true_implies, false_implies, implies_true, and_true, true_and], by simp only [P_M_traffic, pT_isNodeM, mN_n fz m h0 h1, eq_self, one0, if_true, if_false, not_true_eq_false, not_false_eq_true, true_implies, false_implies, implies_true, and_true, true_and], by simp only [B_V_traffic, B_M_traffic, vN_n fz v h0 h1, mN_n fz m h0 h1, eq_self, one0, if_true, if_false, not_true_eq_false, not_false_eq_true, true_implies, false_implies, implies_true, and_true, true_and]⟩
  · obtain ⟨n, own, blk, ep, ft, sc, lk, gr, mp, un, q, wt, wx, lg, us, pv, hR, hI⟩ := hJ
    have hR' := hR
    obtain ⟨hL, hT, hX, hS0, hM0, hD0, hR0, hA0, hW0, hG0, hU0, hE0, hS1, hM1, hD1, hR1, hA1, hW1, hG1, hU1, hE1⟩ := hR'
    have hI' := hI
    obtain ⟨iT, iG, iN0, iN1, iQ0, iQ1, iR0, iR1, iW, iC, iK, iE⟩ := hI'
    obtain ⟨s0a, s1a, s2a, s3a, s4a, s5a, s6a, s7a, s8a, s9a, s10a, s11a, s12a, s13a, s14a, s15a, s16a⟩ := hS0
    obtain ⟨s0b, s1b, s2b, s3b, s4b, s5b, s6b, s7b, s8b, s9b, s10b, s11b, s12b, s13b, s14b, s15b, s16b⟩ := hS1
    obtain ⟨l1, l2, l3, l4⟩ := hL
    have hin : ∀ w, w ∈ wt 0 → (1 ≤ w ∧ w ≤ n) ∧ own w = 1 ∧ ft w = 1 := fun w hw => (iN1.2.2.1 w).mp (PL_w hw)
    have hasc : (wt 0).Pairwise (fun a b => a < b) := (List.pairwise_append.mp iR1).1
    have hfl := wL_0 hR iT iW hasc (fun w hw => ⟨(hin w hw).1, (hin w hw).2.1⟩)
    obtain ⟨⟨u1, u2'⟩, -⟩ := uw_0 fz hz hR hI
    have ct := cv_traffic fz hz (b := 0) (by decide) iT.1 m hT.2.1 u1
    have hb := cv_bitCount fz (v 1 14) v
    rw [iN0.w1 hU0] at hb
    obtain ⟨g, g1, g2, g3, g4, g5⟩ := hR0
    have g4' : v (1 + 4) 4 = nI (q 0).length := g4
    have w4' : v (1 + 8) 1 = nI (wt 0).length := hW0.2.1
    have c51 := hA0.1
    rw [cn_filter, hfl, u2', c51] at ct
    refine ⟨by simp only [P_V_traffic, P_I_bitCount, pT_isNode, pT_nodeOf, eq_self, one0, if_true, if_false, not_true_eq_false, not_false_eq_true, true_implies, false_implies, implies_true, and_true, true_and], by simp only [P_M_traffic, pT_isNodeM, vN_0, mN_0, nO_0, pO_0, ixb_0, vpb_0, om_0, ixb_1, vpb_1, ct.1, eq_self, one0, if_true, if_false, not_true_eq_false, not_false_eq_true, true_implies, false_implies, implies_true, and_true, true_and], ?_⟩
    simp only [B_V_traffic, B_M_traffic, vN_0, mN_0, nO_0, pO_0, ixb_0, vpb_0, om_0, ixb_1, vpb_1, ct.2, g4', w4', hb, eq_self, one0, if_true, if_false, not_true_eq_false, not_false_eq_true, true_implies, false_implies, implies_true, and_true, true_and]
  · obtain ⟨n, own, blk, ep, ft, sc, lk, gr, mp, un, q, wt, wx, lg, us, pv, hR, hI⟩ := hJ
    have hR' := hR
    obtain ⟨hL, hT, hX, hS0, hM0, hD0, hR0, hA0, hW0, hG0, hU0, hE0, hS1, hM1, hD1, hR1, hA1, hW1, hG1, hU1, hE1⟩ := hR'
    have hI' := hI
    obtain ⟨iT, iG, iN0, iN1, iQ0, iQ1, iR0, iR1, iW, iC, iK, iE⟩ := hI'
    obtain ⟨s0a, s1a, s2a, s3a, s4a, s5a, s6a, s7a, s8a, s9a, s10a, s11a, s12a, s13a, s14a, s15a, s16a⟩ := hS0
    obtain ⟨s0b, s1b, s2b, s3b, s4b, s5b, s6b, s7b, s8b, s9b, s10b, s11b, s12b, s13b, s14b, s15b, s16b⟩ := hS1
    obtain ⟨l1, l2, l3, l4⟩ := hL
    have hin : ∀ w, w ∈ wt 1 → (1 ≤ w ∧ w ≤ n) ∧ own w = 0 ∧ ft w = 1 := fun w hw => (iN0.2.2.1 w).mp (PL_w hw)
    have hasc : (wt 1).Pairwise (fun a b => a < b) := (List.pairwise_append.mp iR0).1
    have hfl := wL_1 hR iT iW hasc (fun w hw => ⟨(hin w hw).1, (hin w hw).2.1⟩)
    obtain ⟨⟨u1, u2'⟩, -⟩ := uw_1 fz hz hR hI
    have ct := cv_traffic fz hz (b := 1) (by decide) iT.1 m hT.2.1 u1
    have hb := cv_bitCount fz (v 11 14) v
    rw [iN1.w1 hU1] at hb
    obtain ⟨g, g1, g2, g3, g4, g5⟩ := hR1
    have g4' : v (11 + 4) 4 = nI (q 1).length := g4
    have w4' : v (11 + 8) 1 = nI (wt 1).length := hW1.2.1
    have c51 := hA1.1
    rw [cn_filter, hfl, u2', c51] at ct
    refine ⟨by simp only [P_V_traffic, P_I_bitCount, pT_isNode, pT_nodeOf, eq_self, one0, if_true, if_false, not_true_eq_false, not_false_eq_true, true_implies, false_implies, implies_true, and_true, true_and], by simp only [P_M_traffic, pT_isNodeM, vN_1, mN_1, nO_1, pO_1, ixb_1, vpb_1, om_1, ixb_0, vpb_0, ct.1, eq_self, one0, if_true, if_false, not_true_eq_false, not_false_eq_true, true_implies, false_implies, implies_true, and_true, true_and], ?_⟩
    simp only [B_V_traffic, B_M_traffic, vN_1, mN_1, nO_1, pO_1, ixb_1, vpb_1, om_1, ixb_0, vpb_0, ct.2, g4', w4', hb, eq_self, one0, if_true, if_false, not_true_eq_false, not_false_eq_true, true_implies, false_implies, implies_true, and_true, true_and]
theorem S_copy (fz : Nat) (hz : 400 ≤ fz) {t : Nat} (ht : t ≤ 600) {v m : HH} (hJ : J2 t v m) (x : Int32) : P_V_copy fz x v ∧ P_M_copy fz x m ∧ RS t (B_V_copy fz x v) (B_M_copy fz x m) := by
  rcases ndc x with ⟨h0, h1⟩ | rfl | rfl
  · have eV : B_V_copy fz x v = (-1, v) := by simp only [B_V_copy, vN_n fz v h0 h1, eq_self, one0, if_true, if_false, not_true_eq_false, not_false_eq_true, true_implies, false_implies, implies_true, and_true, true_and]
    have eM : B_M_copy fz x m = (-1, m) := by simp only [B_M_copy, mN_n fz m h0 h1, eq_self, one0, if_true, if_false, not_true_eq_false, not_false_eq_true, true_implies, false_implies, implies_true, and_true, true_and]
    refine ⟨by simp only [P_V_copy, pT_isNode, vN_n fz v h0 h1, eq_self, one0, if_true, if_false, not_true_eq_false, not_false_eq_true, true_implies, false_implies, implies_true, and_true, true_and], by simp only [P_M_copy, pT_isNodeM, mN_n fz m h0 h1, eq_self, one0, if_true, if_false, not_true_eq_false, not_false_eq_true, true_implies, false_implies, implies_true, and_true, true_and], ?_⟩
    rw [eV, eM]
    exact RS.same hJ _
  · have hJ0 := hJ
    obtain ⟨n, own, blk, ep, ft, sc, lk, gr, mp, un, q, wt, wx, lg, us, pv, hR, hI⟩ := hJ
    have hR' := hR
    obtain ⟨hL, hT, hX, hS0, hM0, hD0, hR0, hA0, hW0, hG0, hU0, hE0, hS1, hM1, hD1, hR1, hA1, hW1, hG1, hU1, hE1⟩ := hR'
    have hI' := hI
    obtain ⟨iT, iG, iN0, iN1, iQ0, iQ1, iR0, iR1, iW, iC, iK, iE⟩ := hI'
    obtain ⟨s0a, s1a, s2a, s3a, s4a, s5a, s6a, s7a, s8a, s9a, s10a, s11a, s12a, s13a, s14a, s15a, s16a⟩ := hS0
    obtain ⟨s0b, s1b, s2b, s3b, s4b, s5b, s6b, s7b, s8b, s9b, s10b, s11b, s12b, s13b, s14b, s15b, s16b⟩ := hS1
    obtain ⟨l1, l2, l3, l4⟩ := hL
    by_cases c12 : sc 12 0 = 0
    · have eV : B_V_copy fz (nI 0) v = (-1, v) := by simp only [B_V_copy, vN_0, mN_0, nO_0, pO_0, ixb_0, vpb_0, om_0, ixb_1, vpb_1, s7a, s15a, c12, eq_self, one0, if_true, if_false, not_true_eq_false, not_false_eq_true, true_implies, false_implies, implies_true, and_true, true_and]
      have eM : B_M_copy fz (nI 0) m = (-1, m) := by simp only [B_M_copy, vN_0, mN_0, nO_0, pO_0, ixb_0, vpb_0, om_0, ixb_1, vpb_1, s7a, s15a, c12, eq_self, one0, if_true, if_false, not_true_eq_false, not_false_eq_true, true_implies, false_implies, implies_true, and_true, true_and]
      refine ⟨by simp only [P_V_copy, pT_isNode, pT_nodeOf, pT_peerOf, vN_0, mN_0, nO_0, pO_0, ixb_0, vpb_0, om_0, ixb_1, vpb_1, s7a, s15a, c12, P_I_bitCount, eq_self, one0, if_true, if_false, not_true_eq_false, not_false_eq_true, true_implies, false_implies, implies_true, and_true, true_and], by simp only [P_M_copy, pT_isNodeM, vN_0, mN_0, nO_0, pO_0, ixb_0, vpb_0, om_0, ixb_1, vpb_1, s7a, s15a, c12, eq_self, one0, if_true, if_false, not_true_eq_false, not_false_eq_true, true_implies, false_implies, implies_true, and_true, true_and], ?_⟩
      rw [eV, eM]
      exact RS.same hJ0 _
    · obtain ⟨⟨u1, u2'⟩, U, hUj⟩ := uw_0 fz hz hR hI
      have hb := cv_bitCount fz (v 1 14) v
      rw [iN0.w1 hU0] at hb
      by_cases c4 : nI ((PL (q 1) (wt 1) (q 0)).filter (fun x => x.1 == 1)).length < 4
      · have hlt : ((PL (q 1) (wt 1) (q 0)).filter (fun x => x.1 == 1)).length < 4 := by
          rw [li4] at c4
          have := iN0.2.2.2.2.2.1
          exact (nI_ltI (by omega) (by omega)).mp c4
        have hroom : (q 0).length < 25 := by
          have h1 := iN0.len3
          have h2 := iN1.both
          unfold PL wmp at h1
          rw [List.length_append, List.length_append, List.length_map] at h1
          unfold PL wmp at hlt
          exact qroom iQ0 (by omega)
        obtain ⟨pP, hpb⟩ := cv_pendingBlocks fz hz (nI 0) v iT.1 hT.1 (fun w h1 h2 => ⟨blk w, (iT.2 w h1 h2).2.1, (hT.2.2.2.2 w h1 h2).1.2.1⟩)
        have hN : ∀ j, j < 32 → P_M_pending fz (nI 0) (nI j) (nI j) m ∧ B_M_pending fz (nI 0) (nI j) (nI j) m = nI (cn (fun w => decide (own w = 0 ∧ ft w = 1 ∧ j ≤ blk w ∧ blk w ≤ j)) 1 n) ∧ cn (fun w => decide (own w = 0 ∧ ft w = 1 ∧ j ≤ blk w ∧ blk w ≤ j)) 1 n < 1000 := by
          intro j hj
          obtain ⟨q1, q2⟩ := cp_M fz hz hT iT (b := 0) (f := j) (t := j) (by decide) (by omega) (by omega) rfl rfl
          have := cn_le (fun w => decide (own w = 0 ∧ ft w = 1 ∧ j ≤ blk w ∧ blk w ≤ j)) n 1
          have := iT.1
          exact ⟨q1, q2, by omega⟩
        have hSd : ∀ j, j < 32 → P_M_send fz (nI 0) 3 (nI j) (m 34 (32 * 0 + j)) m := fun j hj => (cv_msend fz (b := 0) (by decide) 3 (nI j) (m 34 (32 * 0 + j)) m hroom hA0.1).1
        have cc := cv_copy fz hz (b := 0) (by decide) m U (fun j => cn (fun w => decide (own w = 0 ∧ ft w = 1 ∧ j ≤ blk w ∧ blk w ≤ j)) 1 n) (fun j hj => (hUj j hj).1) hN hSd
        have cl := cv_leastBlock fz hz ((v 1 5 &&& (v 1 14 ^^^ (-1 : Int32))) &&& (B_T_pendingBlocks fz (nI 0) v ^^^ (-1 : Int32))) v
        have hpend : ∀ j, j < 32 → (bt (B_T_pendingBlocks fz (nI 0) v) j = true ↔ ∃ w, 1 ≤ w ∧ w ≤ n ∧ own w = 0 ∧ ft w = 1 ∧ blk w = j) := by
          intro j hj
          rw [hpb j hj]
          constructor
          · rintro ⟨w, h1, h2, h3, h4, h5⟩
            obtain ⟨⟨e1, e2, e3, e4, e5⟩, -⟩ := hT.2.2.2.2 w h1 h2
            obtain ⟨o1, o2, o3, o4⟩ := iT.2 w h1 h2
            exact ⟨w, h1, h2, (nI_eq (by omega) (by omega)).mp (e1.symm.trans h3), (nI_eq (by omega) (by omega)).mp (e5.symm.trans (h4.trans li1)), (nI_eq (by omega) (by omega)).mp (e2.symm.trans h5)⟩
          · rintro ⟨w, h1, h2, h3, h4, h5⟩
            obtain ⟨⟨e1, e2, e3, e4, e5⟩, -⟩ := hT.2.2.2.2 w h1 h2
            exact ⟨w, h1, h2, by rw [e1, h3], by rw [e5, h4]; exact li1.symm, by rw [e2, h5]⟩
        have hfeq : fnd (bt ((v 1 5 &&& (v 1 14 ^^^ (-1 : Int32))) &&& (B_T_pendingBlocks fz (nI 0) v ^^^ (-1 : Int32)))) 0 32 = fnd (fun j => !decide (m 35 (32 * 0 + j) = 0) && decide (U j = 0) && decide (cn (fun w => decide (own w = 0 ∧ ft w = 1 ∧ j ≤ blk w ∧ blk w ≤ j)) 1 n = 0)) 0 32 := by
          refine fnd_congr 32 0 (fun j _ hj => ?_)
          have hj' : j < 32 := by omega
          rw [b_and, b_and, b_xor, b_xor, b_m1 j hj', (hM0 j hj').1, hU0 j hj', (hM0 j hj').2]
          have e1 : (!decide (bi (mp 0 j) = 0)) = mp 0 j := by cases mp 0 j <;> rfl
          have e2 : decide (U j = 0) = (un 0 j ^^ true) := by
            have := (hUj j hj').2
            cases hu : un 0 j with
            | false => simp [this.mpr hu]
            | true =>
              have : ¬ U j = 0 := fun r => by rw [this.mp r] at hu; cases hu
              simp [this]
          have e3 : decide (cn (fun w => decide (own w = 0 ∧ ft w = 1 ∧ j ≤ blk w ∧ blk w ≤ j)) 1 n = 0) = (bt (B_T_pendingBlocks fz (nI 0) v) j ^^ true) := by
            have h3 := hpend j hj'
            have h4 := cn_pos (p := fun w => decide (own w = 0 ∧ ft w = 1 ∧ j ≤ blk w ∧ blk w ≤ j)) n 1
            cases hbt : bt (B_T_pendingBlocks fz (nI 0) v) j with
            | true =>
              obtain ⟨w, g1, g2, g3, g4, g5⟩ := h3.mp hbt
              have := h4.mpr ⟨w, g1, by omega, decide_eq_true ⟨g3, g4, by omega, by omega⟩⟩
              have : ¬ cn (fun w => decide (own w = 0 ∧ ft w = 1 ∧ j ≤ blk w ∧ blk w ≤ j)) 1 n = 0 := by omega
              rw [decide_eq_false this]
              rfl
            | false =>
              have : cn (fun w => decide (own w = 0 ∧ ft w = 1 ∧ j ≤ blk w ∧ blk w ≤ j)) 1 n = 0 := by
                refine Nat.eq_zero_of_not_pos (fun r => ?_)
                obtain ⟨w, g1, g2, g3⟩ := h4.mp r
                have g4 := of_decide_eq_true g3
                rw [h3.mpr ⟨w, g1, by omega, g4.1, g4.2.1, by omega⟩] at hbt
                cases hbt
              rw [decide_eq_true this]
              rfl
          rw [e1, e2, e3]
        rw [← hfeq] at cc
        cases hf : fnd (bt ((v 1 5 &&& (v 1 14 ^^^ (-1 : Int32))) &&& (B_T_pendingBlocks fz (nI 0) v ^^^ (-1 : Int32)))) 0 32 with
        | none =>
          rw [hf] at cc cl
          have cl2 : B_V_leastBlock fz ((v 1 5 &&& (v 1 14 ^^^ (-1 : Int32))) &&& (B_T_pendingBlocks fz (nI 0) v ^^^ (-1 : Int32))) v = -1 := cl.2
          have eV : B_V_copy fz (nI 0) v = (-1, v) := by simp only [B_V_copy, vN_0, mN_0, nO_0, pO_0, ixb_0, vpb_0, om_0, ixb_1, vpb_1, s7a, s15a, c12, hb, c4, u2', cl2, cc, eq_self, one0, if_true, if_false, not_true_eq_false, not_false_eq_true, true_implies, false_implies, implies_true, and_true, true_and]
          have eM : B_M_copy fz (nI 0) m = (-1, m) := by simp only [B_M_copy, vN_0, mN_0, nO_0, pO_0, ixb_0, vpb_0, om_0, ixb_1, vpb_1, s7a, s15a, c12, hb, c4, u2', cl2, cc, eq_self, one0, if_true, if_false, not_true_eq_false, not_false_eq_true, true_implies, false_implies, implies_true, and_true, true_and]
          refine ⟨by simp only [P_V_copy, pT_isNode, pT_nodeOf, pT_peerOf, vN_0, mN_0, nO_0, pO_0, ixb_0, vpb_0, om_0, ixb_1, vpb_1, s7a, s15a, c12, hb, c4, u2', cl2, cc, P_I_bitCount, pP, cl.1, eq_self, one0, if_true, if_false, not_true_eq_false, not_false_eq_true, true_implies, false_implies, implies_true, and_true, true_and], by simp only [P_M_copy, pT_isNodeM, vN_0, mN_0, nO_0, pO_0, ixb_0, vpb_0, om_0, ixb_1, vpb_1, s7a, s15a, c12, hb, c4, u2', cl2, cc, u1, eq_self, one0, if_true, if_false, not_true_eq_false, not_false_eq_true, true_implies, false_implies, implies_true, and_true, true_and], ?_⟩
          rw [eV, eM]
          exact RS.same hJ0 _
        | some j =>
          rw [hf] at cc cl
          obtain ⟨-, hj, hbX, -⟩ := fnd_some 32 0 j hf
          have hj' : j < 32 := by omega
          have cl2 : B_V_leastBlock fz ((v 1 5 &&& (v 1 14 ^^^ (-1 : Int32))) &&& (B_T_pendingBlocks fz (nI 0) v ^^^ (-1 : Int32))) v = nI j := cl.2
          have njm : ¬ nI j = -1 := fun r => by
            have h0 : ¬ nI j < 0 := nI_pos (by omega)
            rw [r] at h0
            exact h0 (by decide)
          rw [b_and, b_and, b_xor, b_xor, b_m1 j hj', (hM0 j hj').1, hU0 j hj', Bool.and_eq_true, Bool.and_eq_true] at hbX
          obtain ⟨⟨x1, x2⟩, x3⟩ := hbX
          have hun : un 0 j = false := by
            cases h : un 0 j with
            | false => rfl
            | true => rw [h] at x2; cases x2
          have hnp : bt (B_T_pendingBlocks fz (nI 0) v) j = false := by
            cases h : bt (B_T_pendingBlocks fz (nI 0) v) j with
            | false => rfl
            | true => rw [h] at x3; cases x3
          have hxj : ix (nI j) = j := nI_clamp (by omega)
          have hvj : vp_in (nI j) 32 := vp_in_nI hj' (by decide)
          have r1 := r_un_0 hR (v 1 14 ||| ((1 : Int32) <<< (nI j &&& 31)))
          have d34 : (u2 v 1 14 (v 1 14 ||| ((1 : Int32) <<< (nI j &&& 31)))) (1 + 1) j = m 34 (32 * 0 + j) := hD0 j hj'
          obtain ⟨p1, p2, r2⟩ := r_send_0 fz r1 hroom (3, j, m 34 (32 * 0 + j)) (k := 3) (s := nI j) (x := (u2 v 1 14 (v 1 14 ||| ((1 : Int32) <<< (nI j &&& 31)))) (1 + 1) j) (k2 := 3) (s2 := nI j) (x2 := m 34 (32 * 0 + j)) li3 rfl d34 li3 rfl rfl
          have eV : B_V_copy fz (nI 0) v = (nI j, B_O_send fz 1 3 (nI j) ((u2 v 1 14 (v 1 14 ||| ((1 : Int32) <<< (nI j &&& 31)))) (1 + 1) j) (u2 v 1 14 (v 1 14 ||| ((1 : Int32) <<< (nI j &&& 31))))) := by simp only [B_V_copy, B_V_copy_80, vN_0, mN_0, nO_0, pO_0, ixb_0, vpb_0, om_0, ixb_1, vpb_1, s7a, s15a, c12, hb, c4, cl2, njm, hxj, eq_self, one0, if_true, if_false, not_true_eq_false, not_false_eq_true, true_implies, false_implies, implies_true, and_true, true_and]
          have eM : B_M_copy fz (nI 0) m = (nI j, B_M_send fz (nI 0) 3 (nI j) (m 34 (32 * 0 + j)) m) := by simp only [B_M_copy, vN_0, mN_0, nO_0, pO_0, ixb_0, vpb_0, om_0, ixb_1, vpb_1, s7a, s15a, c12, u2', c4, cc, eq_self, one0, if_true, if_false, not_true_eq_false, not_false_eq_true, true_implies, false_implies, implies_true, and_true, true_and]
          refine ⟨by simp only [P_V_copy, P_V_copy_80, P_I_bitCount, pT_isNode, pT_nodeOf, vN_0, mN_0, nO_0, pO_0, ixb_0, vpb_0, om_0, ixb_1, vpb_1, s7a, s15a, c12, hb, c4, pP, cl.1, cl2, njm, hxj, hvj, p1, eq_self, one0, if_true, if_false, not_true_eq_false, not_false_eq_true, true_implies, false_implies, implies_true, and_true, true_and], by simp only [P_M_copy, pT_isNodeM, vN_0, mN_0, nO_0, pO_0, ixb_0, vpb_0, om_0, ixb_1, vpb_1, s7a, s15a, c12, u1, u2', c4, cc, eq_self, one0, if_true, if_false, not_true_eq_false, not_false_eq_true, true_implies, false_implies, implies_true, and_true, true_and], ?_⟩
          rw [eV, eM]
          have hJm := hI.mono (show t ≤ t + 1 by omega)
          obtain ⟨jT, jG, jN0, jN1, jQ0, jQ1, jR0, jR1, jW, jC, jK, jE⟩ := hJm
          have ef : fwd (q 0 ++ [(3, j, m 34 (32 * 0 + j))]) = fwd (q 0) ++ [(1, j)] := fwd_app _ _
          have eb : bck (q 0 ++ [(3, j, m 34 (32 * 0 + j))]) = bck (q 0) := (bck_app _ _).trans (List.append_nil _)
          have ed : dat (q 0 ++ [(3, j, m 34 (32 * 0 + j))]) = dat (q 0) := (dat_app _ _).trans (List.append_nil _)
          have nB : IN n own blk ft 0 (sc 12 0) (mp 0) (bt (v 1 14 ||| ((1 : Int32) <<< (nI j &&& 31)))) (PL (q 1) (wt 1) (q 0 ++ [(3, j, m 34 (32 * 0 + j))])) := by
            have hp := jN0.append1 hj' x1 c12 hun (fun w h1 h2 h3 h4 h5 => by
              rw [(hpend j hj').mpr ⟨w, h1, h2, h3, h4, h5⟩] at hnp
              cases hnp) hlt
            have e : PL (q 1) (wt 1) (q 0 ++ [(3, j, m 34 (32 * 0 + j))]) = PL (q 1) (wt 1) (q 0) ++ [(1, j)] := by
              unfold PL
              rw [ef, List.append_assoc, List.append_assoc]
            rw [e]
            exact hp.congrU (fun k hk => by rw [bt_set _ hj' hk, hU0 k hk]) (fun _ _ => rfl)
          have nO : IN n own blk ft 1 (sc 12 1) (mp 1) (un 1) (PL (q 0 ++ [(3, j, m 34 (32 * 0 + j))]) (wt 0) (q 1)) := by
            have hp := jN1
            unfold PL at hp ⊢
            rw [eb]
            exact hp
          have nR : IR (wt 1) (q 0 ++ [(3, j, m 34 (32 * 0 + j))]) := by
            unfold IR
            rw [ed]
            exact jR0
          have nQ := jQ0.snoc (a := (3, j, m 34 (32 * 0 + j))) (show 1 ≤ 3 by decide) (show 3 < 5 by decide)
          have hlk : lk ≠ 0 := fun r => c12 (jK r).2.2.2.2.1
          exact ⟨rfl, n, own, blk, ep, ft, sc, lk, gr, mp, ug un 0 (bt (v 1 14 ||| ((1 : Int32) <<< (nI j &&& 31)))), ug q 0 (q 0 ++ [(3, j, m 34 (32 * 0 + j))]), wt, wx, lg, us, pv, r2, jT, jG, nB, nO, nQ, jQ1, nR, jR1, jW, jC, fun r => absurd r hlk, jE⟩
      · have eV : B_V_copy fz (nI 0) v = (-1, v) := by simp only [B_V_copy, vN_0, mN_0, nO_0, pO_0, ixb_0, vpb_0, om_0, ixb_1, vpb_1, s7a, s15a, c12, hb, c4, u2', eq_self, one0, if_true, if_false, not_true_eq_false, not_false_eq_true, true_implies, false_implies, implies_true, and_true, true_and]
        have eM : B_M_copy fz (nI 0) m = (-1, m) := by simp only [B_M_copy, vN_0, mN_0, nO_0, pO_0, ixb_0, vpb_0, om_0, ixb_1, vpb_1, s7a, s15a, c12, hb, c4, u2', eq_self, one0, if_true, if_false, not_true_eq_false, not_false_eq_true, true_implies, false_implies, implies_true, and_true, true_and]
        refine ⟨by simp only [P_V_copy, pT_isNode, pT_nodeOf, pT_peerOf, vN_0, mN_0, nO_0, pO_0, ixb_0, vpb_0, om_0, ixb_1, vpb_1, s7a, s15a, c12, hb, c4, u2', P_I_bitCount, eq_self, one0, if_true, if_false, not_true_eq_false, not_false_eq_true, true_implies, false_implies, implies_true, and_true, true_and], by simp only [P_M_copy, pT_isNodeM, vN_0, mN_0, nO_0, pO_0, ixb_0, vpb_0, om_0, ixb_1, vpb_1, s7a, s15a, c12, hb, c4, u2', u1, eq_self, one0, if_true, if_false, not_true_eq_false, not_false_eq_true, true_implies, false_implies, implies_true, and_true, true_and], ?_⟩
        rw [eV, eM]
        exact RS.same hJ0 _
  · have hJ0 := hJ
    obtain ⟨n, own, blk, ep, ft, sc, lk, gr, mp, un, q, wt, wx, lg, us, pv, hR, hI⟩ := hJ
    have hR' := hR
    obtain ⟨hL, hT, hX, hS0, hM0, hD0, hR0, hA0, hW0, hG0, hU0, hE0, hS1, hM1, hD1, hR1, hA1, hW1, hG1, hU1, hE1⟩ := hR'
    have hI' := hI
    obtain ⟨iT, iG, iN0, iN1, iQ0, iQ1, iR0, iR1, iW, iC, iK, iE⟩ := hI'
    obtain ⟨s0a, s1a, s2a, s3a, s4a, s5a, s6a, s7a, s8a, s9a, s10a, s11a, s12a, s13a, s14a, s15a, s16a⟩ := hS0
    obtain ⟨s0b, s1b, s2b, s3b, s4b, s5b, s6b, s7b, s8b, s9b, s10b, s11b, s12b, s13b, s14b, s15b, s16b⟩ := hS1
    obtain ⟨l1, l2, l3, l4⟩ := hL
    by_cases c12 : sc 12 1 = 0
    · have eV : B_V_copy fz (nI 1) v = (-1, v) := by simp only [B_V_copy, vN_1, mN_1, nO_1, pO_1, ixb_1, vpb_1, om_1, ixb_0, vpb_0, s7b, s15b, c12, eq_self, one0, if_true, if_false, not_true_eq_false, not_false_eq_true, true_implies, false_implies, implies_true, and_true, true_and]
      have eM : B_M_copy fz (nI 1) m = (-1, m) := by simp only [B_M_copy, vN_1, mN_1, nO_1, pO_1, ixb_1, vpb_1, om_1, ixb_0, vpb_0, s7b, s15b, c12, eq_self, one0, if_true, if_false, not_true_eq_false, not_false_eq_true, true_implies, false_implies, implies_true, and_true, true_and]
      refine ⟨by simp only [P_V_copy, pT_isNode, pT_nodeOf, pT_peerOf, vN_1, mN_1, nO_1, pO_1, ixb_1, vpb_1, om_1, ixb_0, vpb_0, s7b, s15b, c12, P_I_bitCount, eq_self, one0, if_true, if_false, not_true_eq_false, not_false_eq_true, true_implies, false_implies, implies_true, and_true, true_and], by simp only [P_M_copy, pT_isNodeM, vN_1, mN_1, nO_1, pO_1, ixb_1, vpb_1, om_1, ixb_0, vpb_0, s7b, s15b, c12, eq_self, one0, if_true, if_false, not_true_eq_false, not_false_eq_true, true_implies, false_implies, implies_true, and_true, true_and], ?_⟩
      rw [eV, eM]
      exact RS.same hJ0 _
    · obtain ⟨⟨u1, u2'⟩, U, hUj⟩ := uw_1 fz hz hR hI
      have hb := cv_bitCount fz (v 11 14) v
      rw [iN1.w1 hU1] at hb
      by_cases c4 : nI ((PL (q 0) (wt 0) (q 1)).filter (fun x => x.1 == 1)).length < 4
      · have hlt : ((PL (q 0) (wt 0) (q 1)).filter (fun x => x.1 == 1)).length < 4 := by
          rw [li4] at c4
          have := iN1.2.2.2.2.2.1
          exact (nI_ltI (by omega) (by omega)).mp c4
        have hroom : (q 1).length < 25 := by
          have h1 := iN1.len3
          have h2 := iN0.both
          unfold PL wmp at h1
          rw [List.length_append, List.length_append, List.length_map] at h1
          unfold PL wmp at hlt
          exact qroom iQ1 (by omega)
        obtain ⟨pP, hpb⟩ := cv_pendingBlocks fz hz (nI 1) v iT.1 hT.1 (fun w h1 h2 => ⟨blk w, (iT.2 w h1 h2).2.1, (hT.2.2.2.2 w h1 h2).1.2.1⟩)
        have hN : ∀ j, j < 32 → P_M_pending fz (nI 1) (nI j) (nI j) m ∧ B_M_pending fz (nI 1) (nI j) (nI j) m = nI (cn (fun w => decide (own w = 1 ∧ ft w = 1 ∧ j ≤ blk w ∧ blk w ≤ j)) 1 n) ∧ cn (fun w => decide (own w = 1 ∧ ft w = 1 ∧ j ≤ blk w ∧ blk w ≤ j)) 1 n < 1000 := by
          intro j hj
          obtain ⟨q1, q2⟩ := cp_M fz hz hT iT (b := 1) (f := j) (t := j) (by decide) (by omega) (by omega) rfl rfl
          have := cn_le (fun w => decide (own w = 1 ∧ ft w = 1 ∧ j ≤ blk w ∧ blk w ≤ j)) n 1
          have := iT.1
          exact ⟨q1, q2, by omega⟩
        have hSd : ∀ j, j < 32 → P_M_send fz (nI 1) 3 (nI j) (m 34 (32 * 1 + j)) m := fun j hj => (cv_msend fz (b := 1) (by decide) 3 (nI j) (m 34 (32 * 1 + j)) m hroom hA1.1).1
        have cc := cv_copy fz hz (b := 1) (by decide) m U (fun j => cn (fun w => decide (own w = 1 ∧ ft w = 1 ∧ j ≤ blk w ∧ blk w ≤ j)) 1 n) (fun j hj => (hUj j hj).1) hN hSd
        have cl := cv_leastBlock fz hz ((v 11 5 &&& (v 11 14 ^^^ (-1 : Int32))) &&& (B_T_pendingBlocks fz (nI 1) v ^^^ (-1 : Int32))) v
        have hpend : ∀ j, j < 32 → (bt (B_T_pendingBlocks fz (nI 1) v) j = true ↔ ∃ w, 1 ≤ w ∧ w ≤ n ∧ own w = 1 ∧ ft w = 1 ∧ blk w = j) := by
          intro j hj
          rw [hpb j hj]
          constructor
          · rintro ⟨w, h1, h2, h3, h4, h5⟩
            obtain ⟨⟨e1, e2, e3, e4, e5⟩, -⟩ := hT.2.2.2.2 w h1 h2
            obtain ⟨o1, o2, o3, o4⟩ := iT.2 w h1 h2
            exact ⟨w, h1, h2, (nI_eq (by omega) (by omega)).mp (e1.symm.trans h3), (nI_eq (by omega) (by omega)).mp (e5.symm.trans (h4.trans li1)), (nI_eq (by omega) (by omega)).mp (e2.symm.trans h5)⟩
          · rintro ⟨w, h1, h2, h3, h4, h5⟩
            obtain ⟨⟨e1, e2, e3, e4, e5⟩, -⟩ := hT.2.2.2.2 w h1 h2
            exact ⟨w, h1, h2, by rw [e1, h3], by rw [e5, h4]; exact li1.symm, by rw [e2, h5]⟩
        have hfeq : fnd (bt ((v 11 5 &&& (v 11 14 ^^^ (-1 : Int32))) &&& (B_T_pendingBlocks fz (nI 1) v ^^^ (-1 : Int32)))) 0 32 = fnd (fun j => !decide (m 35 (32 * 1 + j) = 0) && decide (U j = 0) && decide (cn (fun w => decide (own w = 1 ∧ ft w = 1 ∧ j ≤ blk w ∧ blk w ≤ j)) 1 n = 0)) 0 32 := by
          refine fnd_congr 32 0 (fun j _ hj => ?_)
          have hj' : j < 32 := by omega
          rw [b_and, b_and, b_xor, b_xor, b_m1 j hj', (hM1 j hj').1, hU1 j hj', (hM1 j hj').2]
          have e1 : (!decide (bi (mp 1 j) = 0)) = mp 1 j := by cases mp 1 j <;> rfl
          have e2 : decide (U j = 0) = (un 1 j ^^ true) := by
            have := (hUj j hj').2
            cases hu : un 1 j with
            | false => simp [this.mpr hu]
            | true =>
              have : ¬ U j = 0 := fun r => by rw [this.mp r] at hu; cases hu
              simp [this]
          have e3 : decide (cn (fun w => decide (own w = 1 ∧ ft w = 1 ∧ j ≤ blk w ∧ blk w ≤ j)) 1 n = 0) = (bt (B_T_pendingBlocks fz (nI 1) v) j ^^ true) := by
            have h3 := hpend j hj'
            have h4 := cn_pos (p := fun w => decide (own w = 1 ∧ ft w = 1 ∧ j ≤ blk w ∧ blk w ≤ j)) n 1
            cases hbt : bt (B_T_pendingBlocks fz (nI 1) v) j with
            | true =>
              obtain ⟨w, g1, g2, g3, g4, g5⟩ := h3.mp hbt
              have := h4.mpr ⟨w, g1, by omega, decide_eq_true ⟨g3, g4, by omega, by omega⟩⟩
              have : ¬ cn (fun w => decide (own w = 1 ∧ ft w = 1 ∧ j ≤ blk w ∧ blk w ≤ j)) 1 n = 0 := by omega
              rw [decide_eq_false this]
              rfl
            | false =>
              have : cn (fun w => decide (own w = 1 ∧ ft w = 1 ∧ j ≤ blk w ∧ blk w ≤ j)) 1 n = 0 := by
                refine Nat.eq_zero_of_not_pos (fun r => ?_)
                obtain ⟨w, g1, g2, g3⟩ := h4.mp r
                have g4 := of_decide_eq_true g3
                rw [h3.mpr ⟨w, g1, by omega, g4.1, g4.2.1, by omega⟩] at hbt
                cases hbt
              rw [decide_eq_true this]
              rfl
          rw [e1, e2, e3]
        rw [← hfeq] at cc
        cases hf : fnd (bt ((v 11 5 &&& (v 11 14 ^^^ (-1 : Int32))) &&& (B_T_pendingBlocks fz (nI 1) v ^^^ (-1 : Int32)))) 0 32 with
        | none =>
          rw [hf] at cc cl
          have cl2 : B_V_leastBlock fz ((v 11 5 &&& (v 11 14 ^^^ (-1 : Int32))) &&& (B_T_pendingBlocks fz (nI 1) v ^^^ (-1 : Int32))) v = -1 := cl.2
          have eV : B_V_copy fz (nI 1) v = (-1, v) := by simp only [B_V_copy, vN_1, mN_1, nO_1, pO_1, ixb_1, vpb_1, om_1, ixb_0, vpb_0, s7b, s15b, c12, hb, c4, u2', cl2, cc, eq_self, one0, if_true, if_false, not_true_eq_false, not_false_eq_true, true_implies, false_implies, implies_true, and_true, true_and]
          have eM : B_M_copy fz (nI 1) m = (-1, m) := by simp only [B_M_copy, vN_1, mN_1, nO_1, pO_1, ixb_1, vpb_1, om_1, ixb_0, vpb_0, s7b, s15b, c12, hb, c4, u2', cl2, cc, eq_self, one0, if_true, if_false, not_true_eq_false, not_false_eq_true, true_implies, false_implies, implies_true, and_true, true_and]
          refine ⟨by simp only [P_V_copy, pT_isNode, pT_nodeOf, pT_peerOf, vN_1, mN_1, nO_1, pO_1, ixb_1, vpb_1, om_1, ixb_0, vpb_0, s7b, s15b, c12, hb, c4, u2', cl2, cc, P_I_bitCount, pP, cl.1, eq_self, one0, if_true, if_false, not_true_eq_false, not_false_eq_true, true_implies, false_implies, implies_true, and_true, true_and], by simp only [P_M_copy, pT_isNodeM, vN_1, mN_1, nO_1, pO_1, ixb_1, vpb_1, om_1, ixb_0, vpb_0, s7b, s15b, c12, hb, c4, u2', cl2, cc, u1, eq_self, one0, if_true, if_false, not_true_eq_false, not_false_eq_true, true_implies, false_implies, implies_true, and_true, true_and], ?_⟩
          rw [eV, eM]
          exact RS.same hJ0 _
        | some j =>
          rw [hf] at cc cl
          obtain ⟨-, hj, hbX, -⟩ := fnd_some 32 0 j hf
          have hj' : j < 32 := by omega
          have cl2 : B_V_leastBlock fz ((v 11 5 &&& (v 11 14 ^^^ (-1 : Int32))) &&& (B_T_pendingBlocks fz (nI 1) v ^^^ (-1 : Int32))) v = nI j := cl.2
          have njm : ¬ nI j = -1 := fun r => by
            have h0 : ¬ nI j < 0 := nI_pos (by omega)
            rw [r] at h0
            exact h0 (by decide)
          rw [b_and, b_and, b_xor, b_xor, b_m1 j hj', (hM1 j hj').1, hU1 j hj', Bool.and_eq_true, Bool.and_eq_true] at hbX
          obtain ⟨⟨x1, x2⟩, x3⟩ := hbX
          have hun : un 1 j = false := by
            cases h : un 1 j with
            | false => rfl
            | true => rw [h] at x2; cases x2
          have hnp : bt (B_T_pendingBlocks fz (nI 1) v) j = false := by
            cases h : bt (B_T_pendingBlocks fz (nI 1) v) j with
            | false => rfl
            | true => rw [h] at x3; cases x3
          have hxj : ix (nI j) = j := nI_clamp (by omega)
          have hvj : vp_in (nI j) 32 := vp_in_nI hj' (by decide)
          have r1 := r_un_1 hR (v 11 14 ||| ((1 : Int32) <<< (nI j &&& 31)))
          have d34 : (u2 v 11 14 (v 11 14 ||| ((1 : Int32) <<< (nI j &&& 31)))) (11 + 1) j = m 34 (32 * 1 + j) := hD1 j hj'
          obtain ⟨p1, p2, r2⟩ := r_send_1 fz r1 hroom (3, j, m 34 (32 * 1 + j)) (k := 3) (s := nI j) (x := (u2 v 11 14 (v 11 14 ||| ((1 : Int32) <<< (nI j &&& 31)))) (11 + 1) j) (k2 := 3) (s2 := nI j) (x2 := m 34 (32 * 1 + j)) li3 rfl d34 li3 rfl rfl
          have eV : B_V_copy fz (nI 1) v = (nI j, B_O_send fz 11 3 (nI j) ((u2 v 11 14 (v 11 14 ||| ((1 : Int32) <<< (nI j &&& 31)))) (11 + 1) j) (u2 v 11 14 (v 11 14 ||| ((1 : Int32) <<< (nI j &&& 31))))) := by simp only [B_V_copy, B_V_copy_80, vN_1, mN_1, nO_1, pO_1, ixb_1, vpb_1, om_1, ixb_0, vpb_0, s7b, s15b, c12, hb, c4, cl2, njm, hxj, eq_self, one0, if_true, if_false, not_true_eq_false, not_false_eq_true, true_implies, false_implies, implies_true, and_true, true_and]
          have eM : B_M_copy fz (nI 1) m = (nI j, B_M_send fz (nI 1) 3 (nI j) (m 34 (32 * 1 + j)) m) := by simp only [B_M_copy, vN_1, mN_1, nO_1, pO_1, ixb_1, vpb_1, om_1, ixb_0, vpb_0, s7b, s15b, c12, u2', c4, cc, eq_self, one0, if_true, if_false, not_true_eq_false, not_false_eq_true, true_implies, false_implies, implies_true, and_true, true_and]
          refine ⟨by simp only [P_V_copy, P_V_copy_80, P_I_bitCount, pT_isNode, pT_nodeOf, vN_1, mN_1, nO_1, pO_1, ixb_1, vpb_1, om_1, ixb_0, vpb_0, s7b, s15b, c12, hb, c4, pP, cl.1, cl2, njm, hxj, hvj, p1, eq_self, one0, if_true, if_false, not_true_eq_false, not_false_eq_true, true_implies, false_implies, implies_true, and_true, true_and], by simp only [P_M_copy, pT_isNodeM, vN_1, mN_1, nO_1, pO_1, ixb_1, vpb_1, om_1, ixb_0, vpb_0, s7b, s15b, c12, u1, u2', c4, cc, eq_self, one0, if_true, if_false, not_true_eq_false, not_false_eq_true, true_implies, false_implies, implies_true, and_true, true_and], ?_⟩
          rw [eV, eM]
          have hJm := hI.mono (show t ≤ t + 1 by omega)
          obtain ⟨jT, jG, jN0, jN1, jQ0, jQ1, jR0, jR1, jW, jC, jK, jE⟩ := hJm
          have ef : fwd (q 1 ++ [(3, j, m 34 (32 * 1 + j))]) = fwd (q 1) ++ [(1, j)] := fwd_app _ _
          have eb : bck (q 1 ++ [(3, j, m 34 (32 * 1 + j))]) = bck (q 1) := (bck_app _ _).trans (List.append_nil _)
          have ed : dat (q 1 ++ [(3, j, m 34 (32 * 1 + j))]) = dat (q 1) := (dat_app _ _).trans (List.append_nil _)
          have nB : IN n own blk ft 1 (sc 12 1) (mp 1) (bt (v 11 14 ||| ((1 : Int32) <<< (nI j &&& 31)))) (PL (q 0) (wt 0) (q 1 ++ [(3, j, m 34 (32 * 1 + j))])) := by
            have hp := jN1.append1 hj' x1 c12 hun (fun w h1 h2 h3 h4 h5 => by
              rw [(hpend j hj').mpr ⟨w, h1, h2, h3, h4, h5⟩] at hnp
              cases hnp) hlt
            have e : PL (q 0) (wt 0) (q 1 ++ [(3, j, m 34 (32 * 1 + j))]) = PL (q 0) (wt 0) (q 1) ++ [(1, j)] := by
              unfold PL
              rw [ef, List.append_assoc, List.append_assoc]
            rw [e]
            exact hp.congrU (fun k hk => by rw [bt_set _ hj' hk, hU1 k hk]) (fun _ _ => rfl)
          have nO : IN n own blk ft 0 (sc 12 0) (mp 0) (un 0) (PL (q 1 ++ [(3, j, m 34 (32 * 1 + j))]) (wt 1) (q 0)) := by
            have hp := jN0
            unfold PL at hp ⊢
            rw [eb]
            exact hp
          have nR : IR (wt 0) (q 1 ++ [(3, j, m 34 (32 * 1 + j))]) := by
            unfold IR
            rw [ed]
            exact jR1
          have nQ := jQ1.snoc (a := (3, j, m 34 (32 * 1 + j))) (show 1 ≤ 3 by decide) (show 3 < 5 by decide)
          have hlk : lk ≠ 0 := fun r => c12 (jK r).2.2.2.2.2
          exact ⟨rfl, n, own, blk, ep, ft, sc, lk, gr, mp, ug un 1 (bt (v 11 14 ||| ((1 : Int32) <<< (nI j &&& 31)))), ug q 1 (q 1 ++ [(3, j, m 34 (32 * 1 + j))]), wt, wx, lg, us, pv, r2, jT, jG, nO, nB, jQ0, nQ, jR0, nR, jW, jC, fun r => absurd r hlk, jE⟩
      · have eV : B_V_copy fz (nI 1) v = (-1, v) := by simp only [B_V_copy, vN_1, mN_1, nO_1, pO_1, ixb_1, vpb_1, om_1, ixb_0, vpb_0, s7b, s15b, c12, hb, c4, u2', eq_self, one0, if_true, if_false, not_true_eq_false, not_false_eq_true, true_implies, false_implies, implies_true, and_true, true_and]
        have eM : B_M_copy fz (nI 1) m = (-1, m) := by simp only [B_M_copy, vN_1, mN_1, nO_1, pO_1, ixb_1, vpb_1, om_1, ixb_0, vpb_0, s7b, s15b, c12, hb, c4, u2', eq_self, one0, if_true, if_false, not_true_eq_false, not_false_eq_true, true_implies, false_implies, implies_true, and_true, true_and]
        refine ⟨by simp only [P_V_copy, pT_isNode, pT_nodeOf, pT_peerOf, vN_1, mN_1, nO_1, pO_1, ixb_1, vpb_1, om_1, ixb_0, vpb_0, s7b, s15b, c12, hb, c4, u2', P_I_bitCount, eq_self, one0, if_true, if_false, not_true_eq_false, not_false_eq_true, true_implies, false_implies, implies_true, and_true, true_and], by simp only [P_M_copy, pT_isNodeM, vN_1, mN_1, nO_1, pO_1, ixb_1, vpb_1, om_1, ixb_0, vpb_0, s7b, s15b, c12, hb, c4, u2', u1, eq_self, one0, if_true, if_false, not_true_eq_false, not_false_eq_true, true_implies, false_implies, implies_true, and_true, true_and], ?_⟩
        rw [eV, eM]
        exact RS.same hJ0 _
