def fwd (l : List MSG) : List (Nat × Nat) := l.filterMap (fun a => if a.1 = 1 then some (0, a.2.1) else if a.1 = 3 then some (1, a.2.1) else none)
def bck (l : List MSG) : List (Nat × Nat) := l.filterMap (fun a => if a.1 = 2 then some (0, a.2.1) else if a.1 = 4 then some (1, a.2.1) else none)
def dat (l : List MSG) : List Nat := l.filterMap (fun a => if a.1 = 1 then some a.2.1 else none)
def wmp (l : List Nat) : List (Nat × Nat) := l.map (fun w => (0, w))
def PL (qo : List MSG) (wo : List Nat) (qb : List MSG) : List (Nat × Nat) := bck qo ++ (wmp wo ++ fwd qb)
theorem fwd_app (l l' : List MSG) : fwd (l ++ l') = fwd l ++ fwd l' := List.filterMap_append
theorem bck_app (l l' : List MSG) : bck (l ++ l') = bck l ++ bck l' := List.filterMap_append
theorem dat_app (l l' : List MSG) : dat (l ++ l') = dat l ++ dat l' := List.filterMap_append
abbrev oR (blk : Nat → Nat) (x y : Nat × Nat) : Prop := ¬ (x.1 = 0 ∧ y.1 = 1 ∧ blk x.2 = y.2)
def cnP (n : Nat) (own ft : Nat → Nat) (b : Nat) : Nat := cn (fun w => decide (own w = b ∧ ft w = 1)) 1 n
def IN (n : Nat) (own blk ft : Nat → Nat) (b : Nat) (src : Int32) (mpb unb : Nat → Bool) (L : List (Nat × Nat)) : Prop :=
  L.Nodup ∧ (∀ x, x ∈ L → x.1 < 2) ∧ (∀ w, (0, w) ∈ L ↔ (1 ≤ w ∧ w ≤ n) ∧ own w = b ∧ ft w = 1) ∧ (∀ j, (1, j) ∈ L → j < 32 ∧ mpb j = true ∧ src ≠ 0) ∧ L.Pairwise (oR blk) ∧ (L.filter (fun x => x.1 == 1)).length ≤ 4 ∧ (∀ j, j < 32 → (unb j = true ↔ (1, j) ∈ L)) ∧ cnP n own ft b ≤ 8
def IQ (l : List MSG) (s0 s1 : Int32) : Prop := (∀ a, a ∈ l → 1 ≤ a.1 ∧ a.1 ≤ 5) ∧ (∀ a, a ∈ l → a.1 = 5 → a.2.2 ≠ 0 ∧ s0 = 0 ∧ s1 = 0) ∧ (l.filter (fun a => a.1 == 5)).length ≤ 1
def IR (wo : List Nat) (qb : List MSG) : Prop := (wo ++ dat qb).Pairwise (fun a b => a < b)
section LINE
variable {n : Nat} {own blk ft : Nat → Nat} {b : Nat} {src : Int32} {mpb unb : Nat → Bool} {L : List (Nat × Nat)}
theorem IN.w0 (h : IN n own blk ft b src mpb unb L) : cnP n own ft b = (L.filter (fun x => x.1 == 0)).length := by
  obtain ⟨h1, h2, h3, -⟩ := h
  have e : ((L.filter (fun x => x.1 == 0)).map (fun x => x.2)).length = (L.filter (fun x => x.1 == 0)).length := List.length_map _
  rw [← e]
  apply cn_len
  · rw [List.nodup_iff_pairwise_ne, List.pairwise_map]
    refine List.Pairwise.imp_of_mem ?_ (List.Pairwise.filter _ h1)
    intro x y hx hy hxy he
    have hx0 : x.1 = 0 := by simpa using (List.mem_filter.mp hx).2
    have hy0 : y.1 = 0 := by simpa using (List.mem_filter.mp hy).2
    exact hxy (Prod.ext (hx0.trans hy0.symm) he)
  · intro w
    rw [List.mem_map]
    constructor
    · rintro ⟨x, hx, rfl⟩
      obtain ⟨hx1, hx2⟩ := List.mem_filter.mp hx
      have hx0 : x.1 = 0 := by simpa using hx2
      have := (h3 x.2).mp (by rw [← hx0]; exact hx1)
      exact ⟨⟨this.1.1, by omega⟩, by simpa using this.2⟩
    · rintro ⟨⟨g1, g2⟩, g3⟩
      exact ⟨(0, w), List.mem_filter.mpr ⟨(h3 w).mpr ⟨⟨g1, by omega⟩, by simpa using g3⟩, rfl⟩, rfl⟩
theorem IN.len (h : IN n own blk ft b src mpb unb L) : L.length ≤ 12 ∧ (L.filter (fun x => x.1 == 0)).length ≤ 8 := by
  have h0 := h.w0
  obtain ⟨h1, h2, h3, h4, h5, h6, h7, h8⟩ := h
  have e : L.length = (L.filter (fun x => x.1 == 1)).length + (L.filter (fun x => x.1 == 0)).length := by
    clear h1 h3 h4 h5 h6 h7 h8 h0
    induction L with
    | nil => rfl
    | cons x L ih =>
      have ih := ih (fun y hy => h2 y (List.mem_cons_of_mem _ hy))
      have hx := h2 x List.mem_cons_self
      rw [List.length_cons, List.filter_cons, List.filter_cons]
      rcases (show x.1 = 0 ∨ x.1 = 1 by omega) with e | e <;> simp [e] <;> omega
  exact ⟨by omega, by omega⟩
theorem qlen {l : List MSG} (h : ∀ a, a ∈ l → 1 ≤ a.1 ∧ a.1 ≤ 5) : l.length = (fwd l).length + (bck l).length + (l.filter (fun a => a.1 == 5)).length := by
  induction l with
  | nil => rfl
  | cons a l ih =>
    have ih := ih (fun y hy => h y (List.mem_cons_of_mem _ hy))
    have ha := h a List.mem_cons_self
    unfold fwd bck at ih ⊢
    rw [List.length_cons, List.filter_cons, List.filterMap_cons, List.filterMap_cons]
    rcases (show a.1 = 1 ∨ a.1 = 2 ∨ a.1 = 3 ∨ a.1 = 4 ∨ a.1 = 5 by omega) with e | e | e | e | e <;> simp [e] <;> omega
theorem IN.append0 (h : IN n own blk ft b src mpb unb L) (hc : cnP n own ft b < 8) (j : Nat) : IN (n + 1) (ug own (n + 1) b) (ug blk (n + 1) j) (ug ft (n + 1) 1) b src mpb unb (L ++ [(0, n + 1)]) := by
  obtain ⟨h1, h2, h3, h4, h5, h6, h7, h8⟩ := h
  have hw : ∀ w, (0, w) ∈ L → w ≤ n := fun w hw => ((h3 w).mp hw).1.2
  refine ⟨?_, ?_, ?_, ?_, ?_, ?_, ?_, ?_⟩
  · rw [List.nodup_append]
    refine ⟨h1, by simp, ?_⟩
    intro x hx y hy e
    rw [List.mem_singleton] at hy
    subst hy
    subst e
    have := hw _ hx
    omega
  · intro x hx
    rcases List.mem_append.mp hx with hx | hx
    · exact h2 x hx
    · rw [List.mem_singleton.mp hx]
      exact (by decide : (0 : Nat) < 2)
  · intro w
    rw [List.mem_append, List.mem_singleton]
    unfold ug
    by_cases e : w = n + 1
    · subst e
      simp
    · simp only [e, if_false]
      constructor
      · rintro (hx | hx)
        · have := (h3 w).mp hx
          exact ⟨⟨this.1.1, by omega⟩, this.2⟩
        · exact absurd (Prod.mk.inj hx).2 e
      · rintro ⟨⟨g1, g2⟩, g3⟩
        exact Or.inl ((h3 w).mpr ⟨⟨g1, by omega⟩, g3⟩)
  · intro i hi
    rcases List.mem_append.mp hi with hi | hi
    · exact h4 i hi
    · exact absurd (Prod.mk.inj (List.mem_singleton.mp hi)).1 (by decide)
  · rw [List.pairwise_append]
    refine ⟨?_, by simp, ?_⟩
    · refine List.Pairwise.imp_of_mem ?_ h5
      intro x y hx hy hxy hh
      refine hxy ⟨hh.1, hh.2.1, ?_⟩
      have := hw x.2 (by rw [← hh.1]; exact hx)
      have e : ug blk (n + 1) j x.2 = blk x.2 := if_neg (by omega)
      rw [← e]
      exact hh.2.2
    · intro x hx y hy hh
      rw [List.mem_singleton.mp hy] at hh
      exact absurd hh.2.1 (by decide : ¬ (0 : Nat) = 1)
  · rw [List.filter_append]
    simpa using h6
  · intro i hi
    rw [h7 i hi, List.mem_append, List.mem_singleton]
    exact ⟨Or.inl, fun r => r.elim id (fun r => absurd (Prod.mk.inj r).1 (by decide))⟩
  · unfold cnP at hc ⊢
    rw [cn_snoc]
    have e : cn (fun w => decide (ug own (n + 1) b w = b ∧ ug ft (n + 1) 1 w = 1)) 1 n = cn (fun w => decide (own w = b ∧ ft w = 1)) 1 n := by
      apply cn_congr
      intro i g1 g2
      have e : ¬ i = n + 1 := by omega
      simp [ug, e]
    rw [e]
    cases decide (ug own (n + 1) b (1 + n) = b ∧ ug ft (n + 1) 1 (1 + n) = 1) <;> simp only [cond_true, cond_false] <;> omega
theorem IN.other (h : IN n own blk ft b src mpb unb L) {c j x : Nat} (hb : c ≠ b) : IN (n + 1) (ug own (n + 1) c) (ug blk (n + 1) j) (ug ft (n + 1) x) b src mpb unb L := by
  obtain ⟨h1, h2, h3, h4, h5, h6, h7, h8⟩ := h
  have hw : ∀ w, (0, w) ∈ L → w ≤ n := fun w hw => ((h3 w).mp hw).1.2
  refine ⟨h1, h2, ?_, h4, ?_, h6, h7, ?_⟩
  · intro w
    unfold ug
    by_cases e : w = n + 1
    · subst e
      simp only [if_true]
      constructor
      · intro hx
        have := hw _ hx
        omega
      · rintro ⟨_, g, _⟩
        exact absurd g hb
    · simp only [e, if_false]
      rw [h3 w]
      constructor
      · rintro ⟨⟨g1, g2⟩, g3⟩
        exact ⟨⟨g1, by omega⟩, g3⟩
      · rintro ⟨⟨g1, g2⟩, g3⟩
        exact ⟨⟨g1, by omega⟩, g3⟩
  · refine List.Pairwise.imp_of_mem ?_ h5
    intro x' y hx hy hxy hh
    refine hxy ⟨hh.1, hh.2.1, ?_⟩
    have := hw x'.2 (by rw [← hh.1]; exact hx)
    have e : ug blk (n + 1) j x'.2 = blk x'.2 := if_neg (by omega)
    rw [← e]
    exact hh.2.2
  · unfold cnP at h8 ⊢
    rw [cn_snoc]
    have e : cn (fun w => decide (ug own (n + 1) c w = b ∧ ug ft (n + 1) x w = 1)) 1 n = cn (fun w => decide (own w = b ∧ ft w = 1)) 1 n := by
      apply cn_congr
      intro i g1 g2
      have e : ¬ i = n + 1 := by omega
      simp [ug, e]
    have e2 : decide (ug own (n + 1) c (1 + n) = b ∧ ug ft (n + 1) x (1 + n) = 1) = false := by
      have e3 : ug own (n + 1) c (1 + n) = c := if_pos (by omega)
      rw [e3]
      simp [hb]
    rw [e, e2]
    exact h8
theorem IN.append1 (h : IN n own blk ft b src mpb unb L) {j : Nat} (hj : j < 32) (hm : mpb j = true) (hs : src ≠ 0) (hu : unb j = false) (hp : ∀ w, 1 ≤ w → w ≤ n → own w = b → ft w = 1 → blk w ≠ j) (hc : (L.filter (fun x => x.1 == 1)).length < 4) : IN n own blk ft b src mpb (fun k => unb k || decide (k = j)) (L ++ [(1, j)]) := by
  obtain ⟨h1, h2, h3, h4, h5, h6, h7, h8⟩ := h
  have hn : (1, j) ∉ L := fun r => by
    rw [(h7 j hj).mpr r] at hu
    cases hu
  refine ⟨?_, ?_, ?_, ?_, ?_, ?_, ?_, h8⟩
  · rw [List.nodup_append]
    refine ⟨h1, by simp, ?_⟩
    intro x hx y hy e
    rw [List.mem_singleton] at hy
    subst hy
    subst e
    exact hn hx
  · intro x hx
    rcases List.mem_append.mp hx with hx | hx
    · exact h2 x hx
    · rw [List.mem_singleton.mp hx]
      exact (by decide : (1 : Nat) < 2)
  · intro w
    rw [List.mem_append, List.mem_singleton, ← h3 w]
    exact ⟨fun r => r.elim id (fun r => absurd (Prod.mk.inj r).1 (by decide)), Or.inl⟩
  · intro i hi
    rcases List.mem_append.mp hi with hi | hi
    · exact h4 i hi
    · rw [(Prod.mk.inj (List.mem_singleton.mp hi)).2]
      exact ⟨hj, hm, hs⟩
  · rw [List.pairwise_append]
    refine ⟨h5, by simp, ?_⟩
    intro x hx y hy hh
    rw [List.mem_singleton.mp hy] at hh
    have hx' : (0, x.2) ∈ L := by
      rw [← hh.1]
      exact hx
    have := (h3 x.2).mp hx'
    exact hp x.2 this.1.1 this.1.2 this.2.1 this.2.2 hh.2.2
  · rw [List.filter_append, List.length_append]
    have : (List.filter (fun x : Nat × Nat => x.1 == 1) [(1, j)]).length = 1 := rfl
    omega
  · intro i hi
    rw [List.mem_append, List.mem_singleton, Bool.or_eq_true, h7 i hi]
    constructor
    · rintro (r | r)
      · exact Or.inl r
      · exact Or.inr (by rw [of_decide_eq_true r])
    · rintro (r | r)
      · exact Or.inl r
      · exact Or.inr (decide_eq_true (Prod.mk.inj r).2)
theorem IN.pop0 {w : Nat} (h : IN n own blk ft b src mpb unb ((0, w) :: L)) {mp' : Nat → Bool} (hm : ∀ j, src ≠ 0 → j ≠ blk w → mpb j = true → mp' j = true) : IN n own blk (ug ft w 2) b src mp' unb L := by
  obtain ⟨h1, h2, h3, h4, h5, h6, h7, h8⟩ := h
  obtain ⟨hn, h1⟩ := List.nodup_cons.mp h1
  obtain ⟨hr, h5⟩ := List.pairwise_cons.mp h5
  refine ⟨h1, fun x hx => h2 x (List.mem_cons_of_mem _ hx), ?_, ?_, h5, ?_, ?_, ?_⟩
  · intro w'
    unfold ug
    by_cases e : w' = w
    · subst e
      simp [hn]
    · have := h3 w'
      rw [List.mem_cons] at this
      simp only [e, if_false]
      rw [← this]
      exact ⟨Or.inr, fun r => r.elim (fun r => absurd (Prod.mk.inj r).2 e) id⟩
  · intro j hj
    obtain ⟨g1, g2, g3⟩ := h4 j (List.mem_cons_of_mem _ hj)
    refine ⟨g1, hm j g3 (fun e => ?_) g2, g3⟩
    exact hr (1, j) hj ⟨rfl, rfl, e.symm⟩
  · rw [List.filter_cons] at h6
    simpa using h6
  · intro j hj
    rw [h7 j hj, List.mem_cons]
    exact ⟨fun r => r.elim (fun r => absurd (Prod.mk.inj r).1 (by decide)) id, Or.inr⟩
  · refine Nat.le_trans (cn_mono n 1 ?_) h8
    intro i _ _ hi
    have := of_decide_eq_true hi
    unfold ug at this
    by_cases e : i = w
    · rw [if_pos e] at this
      exact absurd this.2 (by decide)
    · rw [if_neg e] at this
      exact decide_eq_true this
theorem IN.pop1 {j : Nat} (h : IN n own blk ft b src mpb unb ((1, j) :: L)) {mp' : Nat → Bool} (hm : ∀ i, i ≠ j → mpb i = true → mp' i = true) : IN n own blk ft b src mp' (fun k => unb k && !decide (k = j)) L := by
  obtain ⟨h1, h2, h3, h4, h5, h6, h7, h8⟩ := h
  obtain ⟨hn, h1⟩ := List.nodup_cons.mp h1
  obtain ⟨hr, h5⟩ := List.pairwise_cons.mp h5
  refine ⟨h1, fun x hx => h2 x (List.mem_cons_of_mem _ hx), ?_, ?_, h5, ?_, ?_, h8⟩
  · intro w
    rw [← h3 w, List.mem_cons]
    exact ⟨Or.inr, fun r => r.elim (fun r => absurd (Prod.mk.inj r).1 (by decide)) id⟩
  · intro i hi
    obtain ⟨g1, g2, g3⟩ := h4 i (List.mem_cons_of_mem _ hi)
    exact ⟨g1, hm i (fun e => hn (by rw [← e]; exact hi)) g2, g3⟩
  · have e : (List.filter (fun x : Nat × Nat => x.1 == 1) ((1, j) :: L)).length = (L.filter (fun x => x.1 == 1)).length + 1 := rfl
    omega
  · intro i hi
    have := h7 i hi
    rw [List.mem_cons] at this
    by_cases e : i = j
    · subst e
      simp [hn]
    · have e2 : ¬ ((1, i) = ((1, j) : Nat × Nat)) := fun r => e (Prod.mk.inj r).2
      simp only [e, e2, false_or, decide_false, Bool.not_false, Bool.and_true] at this ⊢
      exact this
theorem IN.perm {L' : List (Nat × Nat)} (h : IN n own blk ft b src mpb unb L) (hp : L.Perm L') (ho : L'.Pairwise (oR blk)) : IN n own blk ft b src mpb unb L' := by
  obtain ⟨h1, h2, h3, h4, h5, h6, h7, h8⟩ := h
  refine ⟨hp.nodup h1, fun x hx => h2 x (hp.mem_iff.mpr hx), fun w => by rw [← hp.mem_iff]; exact h3 w, fun j hj => h4 j (hp.mem_iff.mpr hj), ho, ?_, fun j hj => by rw [← hp.mem_iff]; exact h7 j hj, h8⟩
  rw [← (hp.filter _).length_eq]
  exact h6
theorem IN.fates (h : IN n own blk ft b src mpb unb L) {ft' : Nat → Nat} (hf : ∀ w, 1 ≤ w → w ≤ n → own w = b → (ft' w = 1 ↔ ft w = 1)) : IN n own blk ft' b src mpb unb L := by
  obtain ⟨h1, h2, h3, h4, h5, h6, h7, h8⟩ := h
  refine ⟨h1, h2, ?_, h4, h5, h6, h7, ?_⟩
  · intro w
    rw [h3 w]
    constructor
    · rintro ⟨g1, g2, g3⟩
      exact ⟨g1, g2, (hf w g1.1 g1.2 g2).mpr g3⟩
    · rintro ⟨g1, g2, g3⟩
      exact ⟨g1, g2, (hf w g1.1 g1.2 g2).mp g3⟩
  · refine Nat.le_trans (cn_mono n 1 ?_) h8
    intro i g1 g2 hi
    have := of_decide_eq_true hi
    exact decide_eq_true ⟨this.1, (hf i g1 (by omega) this.1).mp this.2⟩
theorem IN.marks (h : IN n own blk ft b src mpb unb L) {src' : Int32} {mp' : Nat → Bool} (hm : ∀ j, (1, j) ∈ L → mp' j = true ∧ src' ≠ 0) : IN n own blk ft b src' mp' unb L := by
  obtain ⟨h1, h2, h3, h4, h5, h6, h7, h8⟩ := h
  exact ⟨h1, h2, h3, fun j hj => ⟨(h4 j hj).1, hm j hj⟩, h5, h6, h7, h8⟩
theorem IN.nil (hf : ∀ w, 1 ≤ w → w ≤ n → own w = b → ft w ≠ 1) (hu : ∀ j, j < 32 → unb j = false) : IN n own blk ft b src mpb unb [] := by
  refine ⟨List.nodup_nil, fun x hx => (by cases hx), ?_, fun j hj => (by cases hj), List.Pairwise.nil, by decide, ?_, ?_⟩
  · intro w
    exact ⟨fun r => (by cases r), fun r => absurd r.2.2 (hf w r.1.1 r.1.2 r.2.1)⟩
  · intro j hj
    rw [hu j hj]
    exact ⟨fun r => (by cases r), fun r => by cases r⟩
  · have : cnP n own ft b = 0 := by
      refine Nat.eq_zero_of_not_pos (fun r => ?_)
      obtain ⟨i, g1, g2, g3⟩ := (cn_pos n 1).mp r
      have := of_decide_eq_true g3
      exact hf i g1 (by omega) this.1 this.2
    omega
theorem store_perm {A F : List (Nat × Nat)} {W : List Nat} {k w : Nat} (hk : W[k]? = some w) : (A ++ (wmp W ++ F)).Perm ((A ++ [(0, w)]) ++ (wmp (W.eraseIdx k) ++ F)) := by
  have e : W.Perm (w :: W.eraseIdx k) := by
    induction W generalizing k with
    | nil => cases hk
    | cons x W ih =>
      cases k with
      | zero =>
        have : x = w := by simpa using hk
        subst this
        exact List.Perm.refl _
      | succ k =>
        have := ih (k := k) (by simpa using hk)
        exact (List.Perm.cons x this).trans (List.Perm.swap w x _)
  have e2 : (wmp W).Perm ((0, w) :: wmp (W.eraseIdx k)) := e.map (fun w => (0, w))
  rw [List.append_assoc]
  exact List.Perm.append_left A (List.Perm.append_right F e2)
theorem store_order {A F : List (Nat × Nat)} {W : List Nat} {k w : Nat} (hk : W[k]? = some w) (h : (A ++ (wmp W ++ F)).Pairwise (oR blk)) : ((A ++ [(0, w)]) ++ (wmp (W.eraseIdx k) ++ F)).Pairwise (oR blk) := by
  have hw : w ∈ W := List.mem_of_getElem? hk
  have hsub : ∀ x, x ∈ wmp (W.eraseIdx k) → x ∈ wmp W := fun x hx => by
    obtain ⟨y, hy, rfl⟩ := List.mem_map.mp hx
    exact List.mem_map.mpr ⟨y, List.mem_of_mem_eraseIdx hy, rfl⟩
  obtain ⟨p1, p2, p3⟩ := List.pairwise_append.mp h
  obtain ⟨p4, p5, p6⟩ := List.pairwise_append.mp p2
  have w0 : ∀ x, x ∈ wmp W → x.1 = 0 := fun x hx => by
    obtain ⟨y, hy, rfl⟩ := List.mem_map.mp hx
    rfl
  rw [List.pairwise_append, List.pairwise_append, List.pairwise_append]
  refine ⟨⟨p1, by simp, ?_⟩, ⟨?_, p5, fun x hx y hy => p6 x (hsub x hx) y hy⟩, ?_⟩
  · intro x hx y hy
    rw [List.mem_singleton.mp hy]
    exact fun r => absurd r.2.1 (by decide : ¬ (0 : Nat) = 1)
  · refine List.Pairwise.sublist ?_ p4
    exact (List.eraseIdx_sublist W k).map _
  · intro x hx y hy
    rcases List.mem_append.mp hx with hx | hx
    · rcases List.mem_append.mp hy with hy | hy
      · exact p3 x hx y (List.mem_append_left _ (hsub y hy))
      · exact p3 x hx y (List.mem_append_right _ hy)
    · rw [List.mem_singleton.mp hx]
      rcases List.mem_append.mp hy with hy | hy
      · intro r
        have := w0 y (hsub y hy)
        rw [this] at r
        exact absurd r.2.1 (by decide)
      · exact p6 (0, w) (List.mem_map.mpr ⟨w, hw, rfl⟩) y hy
theorem copy_perm {A F : List (Nat × Nat)} {W : List Nat} {j : Nat} : (A ++ (wmp W ++ (1, j) :: F)).Perm ((A ++ [(1, j)]) ++ (wmp W ++ F)) := by
  rw [List.append_assoc]
  exact List.Perm.append_left A List.perm_middle
theorem copy_order {A F : List (Nat × Nat)} {W : List Nat} {j : Nat} (h : (A ++ (wmp W ++ (1, j) :: F)).Pairwise (oR blk)) : ((A ++ [(1, j)]) ++ (wmp W ++ F)).Pairwise (oR blk) := by
  obtain ⟨p1, p2, p3⟩ := List.pairwise_append.mp h
  obtain ⟨p4, p5, p6⟩ := List.pairwise_append.mp p2
  obtain ⟨p7, p8⟩ := List.pairwise_cons.mp p5
  rw [List.pairwise_append, List.pairwise_append, List.pairwise_append]
  refine ⟨⟨p1, by simp, ?_⟩, ⟨p4, p8, fun x hx y hy => p6 x hx y (List.mem_cons_of_mem _ hy)⟩, ?_⟩
  · intro x hx y hy
    rw [List.mem_singleton.mp hy]
    exact p3 x hx (1, j) (List.mem_append_right _ List.mem_cons_self)
  · intro x hx y hy
    rcases List.mem_append.mp hx with hx | hx
    · rcases List.mem_append.mp hy with hy | hy
      · exact p3 x hx y (List.mem_append_left _ hy)
      · exact p3 x hx y (List.mem_append_right _ (List.mem_cons_of_mem _ hy))
    · rw [List.mem_singleton.mp hx]
      exact fun r => absurd r.1 (by decide : ¬ (1 : Nat) = 0)
end LINE
theorem q25 {l : List MSG} {s0 s1 : Int32} (h : IQ l s0 s1) (h1 : (fwd l).length ≤ 12) (h2 : (bck l).length ≤ 12) : l.length ≤ 25 := by
  have := qlen h.1
  have := h.2.2
  omega
