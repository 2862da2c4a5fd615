theorem u2_u2 (h : HH) (i k : Nat) (x y : Int32) : u2 (u2 h i k x) i k y = u2 h i k y := by
  funext a b
  unfold u2
  by_cases c : a = i ∧ b = k
  · rw [if_pos c, if_pos c]
  · rw [if_neg c, if_neg c, if_neg c]
theorem idl_spec {p : Nat → Bool} {us : Nat → Int32} {u : Nat → Nat} (hu : ∀ e, e < 8 → p e = true → us e = nI (u e) ∧ u e < 1000) : ∀ (k e : Nat) (o : Option Nat), e + k = 8 → (∀ a, o = some a → a < 8 ∧ p a = true ∧ ∀ x, x < e → p x = true → u a ≤ u x) → (o = none → ∀ x, x < e → p x = false) → (∀ a, idl p us o e k = some a → a < 8 ∧ p a = true ∧ ∀ x, x < 8 → p x = true → u a ≤ u x) ∧ (idl p us o e k = none → ∀ x, x < 8 → p x = false) := by
  intro k
  induction k with
  | zero =>
    intro e o hk h1 h2
    have he : e = 8 := by omega
    subst he
    cases o with
    | none => exact ⟨fun a ha => (by cases ha), fun _ => h2 rfl⟩
    | some a => exact ⟨fun a' ha => h1 a' ha, fun ha => by cases ha⟩
  | succ k ih =>
    intro e o hk h1 h2
    cases o with
    | none =>
      rw [idl]
      cases hp : p e with
      | false =>
        rw [cond_false]
        refine ih (e + 1) none (by omega) (fun a ha => by cases ha) (fun _ x hx => ?_)
        by_cases c : x = e
        · rw [c]; exact hp
        · exact h2 rfl x (by omega)
      | true =>
        rw [cond_true]
        refine ih (e + 1) (some e) (by omega) (fun a ha => ?_) (fun ha => by cases ha)
        have ea : e = a := Option.some.inj ha
        subst ea
        refine ⟨by omega, hp, fun x hx hpx => ?_⟩
        by_cases c : x = e
        · rw [c]; exact Nat.le_refl _
        · rw [h2 rfl x (by omega)] at hpx
          cases hpx
    | some a =>
      obtain ⟨a8, ap, am⟩ := h1 a rfl
      rw [idl]
      cases hp : p e with
      | false =>
        rw [cond_false]
        refine ih (e + 1) (some a) (by omega) (fun a' ha => ?_) (fun ha => by cases ha)
        have ea : a = a' := Option.some.inj ha
        subst ea
        refine ⟨a8, ap, fun x hx hpx => ?_⟩
        by_cases c : x = e
        · rw [c, hp] at hpx
          cases hpx
        · exact am x (by omega) hpx
      | true =>
        rw [cond_true]
        have k1 : us a ≤ us e ↔ u a ≤ u e := by
          have ha := hu a a8 ap
          have he := hu e (by omega) hp
          rw [ha.1, he.1]
          exact nI_leI (by omega) (by omega)
        by_cases c : us a ≤ us e
        · rw [if_pos c]
          refine ih (e + 1) (some a) (by omega) (fun a' ha => ?_) (fun ha => by cases ha)
          have ea : a = a' := Option.some.inj ha
          subst ea
          refine ⟨a8, ap, fun x hx hpx => ?_⟩
          by_cases cx : x = e
          · rw [cx]; exact k1.mp c
          · exact am x (by omega) hpx
        · rw [if_neg c]
          have hlt : u e < u a := Nat.lt_of_not_le (fun r => c (k1.mpr r))
          refine ih (e + 1) (some e) (by omega) (fun a' ha => ?_) (fun ha => by cases ha)
          have ea : e = a' := Option.some.inj ha
          subst ea
          refine ⟨by omega, hp, fun x hx hpx => ?_⟩
          by_cases cx : x = e
          · rw [cx]; exact Nat.le_refl _
          · have := am x (by omega) hpx
            omega
theorem erase_mem {l : List Nat} {p x : Nat} (nd : l.Nodup) : x ∈ l.eraseIdx p ↔ x ∈ l ∧ l[p]? ≠ some x := by
  induction l generalizing p with
  | nil => simp
  | cons a l ih =>
    obtain ⟨n1, n2⟩ := List.nodup_cons.mp nd
    cases p with
    | zero =>
      rw [List.eraseIdx_cons_zero, List.mem_cons]
      constructor
      · intro hx
        refine ⟨Or.inr hx, fun r => ?_⟩
        have : a = x := by simpa using r
        rw [this] at n1
        exact n1 hx
      · rintro ⟨hx | hx, hn⟩
        · exact absurd (by rw [hx]; rfl) hn
        · exact hx
    | succ p =>
      rw [List.eraseIdx_cons_succ, List.mem_cons, List.mem_cons, ih n2, List.getElem?_cons_succ]
      constructor
      · rintro (hx | ⟨hx, hn⟩)
        · refine ⟨Or.inl hx, fun r => ?_⟩
          rw [hx] at r
          exact n1 (List.mem_of_getElem? r)
        · exact ⟨Or.inr hx, hn⟩
      · rintro ⟨hx | hx, hn⟩
        · exact Or.inl hx
        · exact Or.inr ⟨hx, hn⟩
theorem put_front {i b n : Nat} {l : List Nat} {us : Nat → Nat} {v m : HH} (hG : GG b n l us (v (i + 2) 1) (v (i + 3)) (m 36) (m 37)) {p g e0 : Nat} {y : Int32} (hb : b < 2) (he0 : e0 < 8) (hg8 : g < 8) (hp : p < 3) (hpl : p ≤ l.length) (hin : e0 ∈ l → l[p]? = some e0) (hout : ∀ e, e < 8 → e ≠ e0 → (u2 m 36 (8 * b + g) y 36 (8 * b + e) = bi (decide (e ∈ l ∧ l[p]? ≠ some e)))) : GG b (n + 1) (e0 :: l.eraseIdx p) (ug us e0 (n + 1)) (nI (e0 :: l.eraseIdx p).length) (pfr i (nI e0) p v (i + 3)) (u2 (u2 m 36 (8 * b + g) y) 36 (8 * b + e0) 1 36) (u2 m 37 (8 * b + e0) (nI (n + 1)) 37) := by
  obtain ⟨g1, g2, g3, g4, g5, g6⟩ := hG
  have nd : l.Nodup := g6.imp (fun {a b} (r : us b < us a) (h : a = b) => by rw [h] at r; exact Nat.lt_irrefl _ r)
  have hne : e0 ∉ l.eraseIdx p := fun r => by
    have := (erase_mem nd).mp r
    exact this.2 (hin this.1)
  refine ⟨?_, rfl, ?_, ?_, ?_, ?_⟩
  · rw [List.length_cons, List.length_eraseIdx]
    split
    · omega
    · omega
  · intro k e hk
    unfold pfr
    cases k with
    | zero =>
      have : e0 = e := by simpa using hk
      subst this
      rw [if_pos ⟨rfl, Nat.zero_le _⟩, if_pos rfl]
    | succ k =>
      rw [List.getElem?_cons_succ, List.getElem?_eraseIdx] at hk
      by_cases c : k < p
      · rw [if_pos c] at hk
        rw [if_pos ⟨rfl, by omega⟩, if_neg (by omega), Nat.add_sub_cancel]
        exact g3 k e hk
      · rw [if_neg c] at hk
        rw [if_neg (by omega)]
        exact g3 (k + 1) e hk
  · intro e he
    by_cases c : e = e0
    · subst c
      rw [u2_s, u2_s]
      refine ⟨by simp [bi], ?_⟩
      have : ug us e (n + 1) e = n + 1 := if_pos rfl
      rw [this]
    · rw [u2_k _ _ _ (show 8 * b + e ≠ 8 * b + e0 by omega), u2_k _ _ _ (show 8 * b + e ≠ 8 * b + e0 by omega)]
      refine ⟨?_, ?_⟩
      · rw [hout e he c]
        congr 1
        rw [decide_eq_decide, List.mem_cons, erase_mem nd]
        exact ⟨Or.inr, fun r => r.elim (fun r => absurd r c) id⟩
      · have : ug us e0 (n + 1) e = us e := if_neg c
        rw [this]
        exact (g4 e he).2
  · intro e he
    rcases List.mem_cons.mp he with rfl | he
    · have : ug us e (n + 1) e = n + 1 := if_pos rfl
      exact ⟨he0, by omega⟩
    · have h1 := g5 e (List.mem_of_mem_eraseIdx he)
      have c : e ≠ e0 := fun r => hne (by rw [← r]; exact he)
      have : ug us e0 (n + 1) e = us e := if_neg c
      exact ⟨h1.1, by omega⟩
  · rw [List.pairwise_cons]
    refine ⟨fun e he => ?_, ?_⟩
    · have h1 := g5 e (List.mem_of_mem_eraseIdx he)
      have c : e ≠ e0 := fun r => hne (by rw [← r]; exact he)
      have h2 : ug us e0 (n + 1) e = us e := if_neg c
      have h3 : ug us e0 (n + 1) e0 = n + 1 := if_pos rfl
      omega
    · refine List.Pairwise.imp_of_mem ?_ (List.Pairwise.sublist (List.eraseIdx_sublist l p) g6)
      intro a b ha hb hab
      have ca : a ≠ e0 := fun r => hne (by rw [← r]; exact ha)
      have cb : b ≠ e0 := fun r => hne (by rw [← r]; exact hb)
      have h2 : ug us e0 (n + 1) a = us a := if_neg ca
      have h3 : ug us e0 (n + 1) b = us b := if_neg cb
      omega
set_option maxHeartbeats 4000000 in
theorem w_rel_0 {n : Nat} {own blk ep ft : Nat → Nat} {sc : HH} {lk gr : Int32} {mp un : Nat → Nat → Bool} {q : Nat → List MSG} {wt : Nat → List Nat} {wx : Nat → Bool} {lg : Nat → List Nat} {us : Nat → Nat → Nat} {pv : Nat → Nat} {v m : HH} (hR : Rel n own blk ep ft sc lk gr mp un q wt wx lg us pv (v) (m)) (hn : n < 300) {j p g e0 E : Nat} (hj : j < 32) (he0 : e0 < 8) (hg8 : g < 8) (y z : Int32) {l' : List Nat} {us' : Nat → Nat} (hG' : GG 0 (n + 1) l' us' (nI l'.length) (pfr 1 (nI e0) p v 4) (u2 (u2 m 36 (8 * 0 + g) y) 36 (8 * 0 + e0) 1 36) (u2 m 37 (8 * 0 + e0) (nI (n + 1)) 37)) : Rel (n + 1) (ug own (n + 1) 0) (ug blk (n + 1) j) (ug ep (n + 1) E) (ug ft (n + 1) 1) sc lk gr mp un q wt wx (ug lg 0 l') (ug us 0 us') (ug pv 0 (n + 1)) (u2 (u2 (u2 (u2 (u2 (u2 (u2 (u2 (u2 (u2 (pfr 1 (nI e0) p v) 3 1 (nI l'.length)) 2 j z) 1 15 (nI E)) 1 16 0) 21 5 (nI (n + 1))) 22 (n + 1) (nI 0)) 23 (n + 1) (nI j)) 24 (n + 1) z) 25 (n + 1) (nI E)) 26 (n + 1) 1) (u2 (u2 (u2 (u2 (u2 (u2 (u2 (u2 (u2 (u2 (u2 (u2 (u2 m 36 (8 * 0 + g) y) 36 (8 * 0 + e0) 1) 27 11 (nI (n + 1))) 37 (8 * 0 + e0) (nI (n + 1))) 27 0 (nI (n + 1))) 28 (n + 1) (nI 0)) 29 (n + 1) (nI j)) 30 (n + 1) z) 31 (n + 1) (nI E)) 47 0 (nI (n + 1))) 46 0 0) 34 (32 * 0 + j) z) 32 (n + 1) 1) := by
  obtain ⟨hL, hT, hX, hS0, hM0, hD0, hR0, hA0, hW0, hG0, hU0, hE0, hS1, hM1, hD1, hR1, hA1, hW1, hG1, hU1, hE1⟩ := hR
  refine ⟨hL, ?_, hX, hS0, hM0, ?_, hR0, hA0, hW0, hG', hU0, ?_, hS1, hM1, ?_, hR1, hA1, hW1, ?_, hU1, ?_⟩
  · refine ⟨rfl, rfl, rfl, ?_, ?_⟩
    · have e31 : (u2 (u2 (u2 (u2 (u2 (u2 (u2 (u2 (u2 (u2 (u2 (u2 (u2 m 36 (8 * 0 + g) y) 36 (8 * 0 + e0) 1) 27 11 (nI (n + 1))) 37 (8 * 0 + e0) (nI (n + 1))) 27 0 (nI (n + 1))) 28 (n + 1) (nI 0)) 29 (n + 1) (nI j)) 30 (n + 1) z) 31 (n + 1) (nI E)) 47 0 (nI (n + 1))) 46 0 0) 34 (32 * 0 + j) z) 32 (n + 1) 1) 31 0 = u2 m 31 (n + 1) (nI E) 31 0 := rfl
      rw [e31, u2_k m _ 31 (by omega)]
      exact hT.2.2.2.1
    · intro w g1 g2
      have r22 : (u2 (u2 (u2 (u2 (u2 (u2 (u2 (u2 (u2 (u2 (pfr 1 (nI e0) p v) 3 1 (nI l'.length)) 2 j z) 1 15 (nI E)) 1 16 0) 21 5 (nI (n + 1))) 22 (n + 1) (nI 0)) 23 (n + 1) (nI j)) 24 (n + 1) z) 25 (n + 1) (nI E)) 26 (n + 1) 1) 22 w = u2 v 22 (n + 1) (nI 0) 22 w := rfl
      have r23 : (u2 (u2 (u2 (u2 (u2 (u2 (u2 (u2 (u2 (u2 (pfr 1 (nI e0) p v) 3 1 (nI l'.length)) 2 j z) 1 15 (nI E)) 1 16 0) 21 5 (nI (n + 1))) 22 (n + 1) (nI 0)) 23 (n + 1) (nI j)) 24 (n + 1) z) 25 (n + 1) (nI E)) 26 (n + 1) 1) 23 w = u2 v 23 (n + 1) (nI j) 23 w := rfl
      have r24 : (u2 (u2 (u2 (u2 (u2 (u2 (u2 (u2 (u2 (u2 (pfr 1 (nI e0) p v) 3 1 (nI l'.length)) 2 j z) 1 15 (nI E)) 1 16 0) 21 5 (nI (n + 1))) 22 (n + 1) (nI 0)) 23 (n + 1) (nI j)) 24 (n + 1) z) 25 (n + 1) (nI E)) 26 (n + 1) 1) 24 w = u2 v 24 (n + 1) z 24 w := rfl
      have r25 : (u2 (u2 (u2 (u2 (u2 (u2 (u2 (u2 (u2 (u2 (pfr 1 (nI e0) p v) 3 1 (nI l'.length)) 2 j z) 1 15 (nI E)) 1 16 0) 21 5 (nI (n + 1))) 22 (n + 1) (nI 0)) 23 (n + 1) (nI j)) 24 (n + 1) z) 25 (n + 1) (nI E)) 26 (n + 1) 1) 25 w = u2 v 25 (n + 1) (nI E) 25 w := rfl
      have r26 : (u2 (u2 (u2 (u2 (u2 (u2 (u2 (u2 (u2 (u2 (pfr 1 (nI e0) p v) 3 1 (nI l'.length)) 2 j z) 1 15 (nI E)) 1 16 0) 21 5 (nI (n + 1))) 22 (n + 1) (nI 0)) 23 (n + 1) (nI j)) 24 (n + 1) z) 25 (n + 1) (nI E)) 26 (n + 1) 1) 26 w = u2 v 26 (n + 1) 1 26 w := rfl
      have r28 : (u2 (u2 (u2 (u2 (u2 (u2 (u2 (u2 (u2 (u2 (u2 (u2 (u2 m 36 (8 * 0 + g) y) 36 (8 * 0 + e0) 1) 27 11 (nI (n + 1))) 37 (8 * 0 + e0) (nI (n + 1))) 27 0 (nI (n + 1))) 28 (n + 1) (nI 0)) 29 (n + 1) (nI j)) 30 (n + 1) z) 31 (n + 1) (nI E)) 47 0 (nI (n + 1))) 46 0 0) 34 (32 * 0 + j) z) 32 (n + 1) 1) 28 w = u2 m 28 (n + 1) (nI 0) 28 w := rfl
      have r29 : (u2 (u2 (u2 (u2 (u2 (u2 (u2 (u2 (u2 (u2 (u2 (u2 (u2 m 36 (8 * 0 + g) y) 36 (8 * 0 + e0) 1) 27 11 (nI (n + 1))) 37 (8 * 0 + e0) (nI (n + 1))) 27 0 (nI (n + 1))) 28 (n + 1) (nI 0)) 29 (n + 1) (nI j)) 30 (n + 1) z) 31 (n + 1) (nI E)) 47 0 (nI (n + 1))) 46 0 0) 34 (32 * 0 + j) z) 32 (n + 1) 1) 29 w = u2 m 29 (n + 1) (nI j) 29 w := rfl
      have r30 : (u2 (u2 (u2 (u2 (u2 (u2 (u2 (u2 (u2 (u2 (u2 (u2 (u2 m 36 (8 * 0 + g) y) 36 (8 * 0 + e0) 1) 27 11 (nI (n + 1))) 37 (8 * 0 + e0) (nI (n + 1))) 27 0 (nI (n + 1))) 28 (n + 1) (nI 0)) 29 (n + 1) (nI j)) 30 (n + 1) z) 31 (n + 1) (nI E)) 47 0 (nI (n + 1))) 46 0 0) 34 (32 * 0 + j) z) 32 (n + 1) 1) 30 w = u2 m 30 (n + 1) z 30 w := rfl
      have r31 : (u2 (u2 (u2 (u2 (u2 (u2 (u2 (u2 (u2 (u2 (u2 (u2 (u2 m 36 (8 * 0 + g) y) 36 (8 * 0 + e0) 1) 27 11 (nI (n + 1))) 37 (8 * 0 + e0) (nI (n + 1))) 27 0 (nI (n + 1))) 28 (n + 1) (nI 0)) 29 (n + 1) (nI j)) 30 (n + 1) z) 31 (n + 1) (nI E)) 47 0 (nI (n + 1))) 46 0 0) 34 (32 * 0 + j) z) 32 (n + 1) 1) 31 w = u2 m 31 (n + 1) (nI E) 31 w := rfl
      have r32 : (u2 (u2 (u2 (u2 (u2 (u2 (u2 (u2 (u2 (u2 (u2 (u2 (u2 m 36 (8 * 0 + g) y) 36 (8 * 0 + e0) 1) 27 11 (nI (n + 1))) 37 (8 * 0 + e0) (nI (n + 1))) 27 0 (nI (n + 1))) 28 (n + 1) (nI 0)) 29 (n + 1) (nI j)) 30 (n + 1) z) 31 (n + 1) (nI E)) 47 0 (nI (n + 1))) 46 0 0) 34 (32 * 0 + j) z) 32 (n + 1) 1) 32 w = u2 m 32 (n + 1) 1 32 w := rfl
      rw [r22, r23, r24, r25, r26, r28, r29, r30, r31, r32]
      by_cases hw : w = n + 1
      · subst hw
        have u1 : ug own (n + 1) 0 (n + 1) = 0 := if_pos rfl
        have u2a : ug blk (n + 1) j (n + 1) = j := if_pos rfl
        have u3 : ug ep (n + 1) E (n + 1) = E := if_pos rfl
        have u4 : ug ft (n + 1) 1 (n + 1) = 1 := if_pos rfl
        rw [u2_s, u2_s, u2_s, u2_s, u2_s, u2_s, u2_s, u2_s, u2_s, u2_s, u1, u2a, u3, u4]
        exact ⟨⟨rfl, rfl, rfl, rfl, li1⟩, rfl, rfl, rfl, li1⟩
      · have u1 : ug own (n + 1) 0 w = own w := if_neg hw
        have u2a : ug blk (n + 1) j w = blk w := if_neg hw
        have u3 : ug ep (n + 1) E w = ep w := if_neg hw
        have u4 : ug ft (n + 1) 1 w = ft w := if_neg hw
        rw [u2_k _ _ _ hw, u2_k _ _ _ hw, u2_k _ _ _ hw, u2_k _ _ _ hw, u2_k _ _ _ hw, u2_k _ _ _ hw, u2_k _ _ _ hw, u2_k _ _ _ hw, u2_k _ _ _ hw, u2_k _ _ _ hw, u1, u2a, u3, u4]
        exact hT.2.2.2.2 w g1 (by omega)
  · intro k hk
    have r1 : (u2 (u2 (u2 (u2 (u2 (u2 (u2 (u2 (u2 (u2 (pfr 1 (nI e0) p v) 3 1 (nI l'.length)) 2 j z) 1 15 (nI E)) 1 16 0) 21 5 (nI (n + 1))) 22 (n + 1) (nI 0)) 23 (n + 1) (nI j)) 24 (n + 1) z) 25 (n + 1) (nI E)) 26 (n + 1) 1) 2 k = u2 v 2 j z 2 k := rfl
    have r2 : (u2 (u2 (u2 (u2 (u2 (u2 (u2 (u2 (u2 (u2 (u2 (u2 (u2 m 36 (8 * 0 + g) y) 36 (8 * 0 + e0) 1) 27 11 (nI (n + 1))) 37 (8 * 0 + e0) (nI (n + 1))) 27 0 (nI (n + 1))) 28 (n + 1) (nI 0)) 29 (n + 1) (nI j)) 30 (n + 1) z) 31 (n + 1) (nI E)) 47 0 (nI (n + 1))) 46 0 0) 34 (32 * 0 + j) z) 32 (n + 1) 1) 34 (32 * 0 + k) = u2 m 34 (32 * 0 + j) z 34 (32 * 0 + k) := rfl
    rw [r1, r2]
    by_cases e : k = j
    · subst e
      rw [u2_s, u2_s]
    · rw [u2_k v z 2 e, u2_k m z 34 (show 32 * 0 + k ≠ 32 * 0 + j by omega)]
      exact hD0 k hk
  · refine ⟨Nat.le_refl _, ?_, rfl, ?_⟩
    · have r1 : (u2 (u2 (u2 (u2 (u2 (u2 (u2 (u2 (u2 (u2 (u2 (u2 (u2 m 36 (8 * 0 + g) y) 36 (8 * 0 + e0) 1) 27 11 (nI (n + 1))) 37 (8 * 0 + e0) (nI (n + 1))) 27 0 (nI (n + 1))) 28 (n + 1) (nI 0)) 29 (n + 1) (nI j)) 30 (n + 1) z) 31 (n + 1) (nI E)) 47 0 (nI (n + 1))) 46 0 0) 34 (32 * 0 + j) z) 32 (n + 1) 1) 31 (n + 1) = u2 m 31 (n + 1) (nI E) 31 (n + 1) := rfl
      show nI E = (u2 (u2 (u2 (u2 (u2 (u2 (u2 (u2 (u2 (u2 (u2 (u2 (u2 m 36 (8 * 0 + g) y) 36 (8 * 0 + e0) 1) 27 11 (nI (n + 1))) 37 (8 * 0 + e0) (nI (n + 1))) 27 0 (nI (n + 1))) 28 (n + 1) (nI 0)) 29 (n + 1) (nI j)) 30 (n + 1) z) 31 (n + 1) (nI E)) 47 0 (nI (n + 1))) 46 0 0) 34 (32 * 0 + j) z) 32 (n + 1) 1) 31 (n + 1)
      rw [r1, u2_s]
    · exact ⟨fun _ => ⟨Nat.succ_ne_zero n, rfl⟩, fun _ => rfl⟩
  · intro k hk
    have r2 : (u2 (u2 (u2 (u2 (u2 (u2 (u2 (u2 (u2 (u2 (u2 (u2 (u2 m 36 (8 * 0 + g) y) 36 (8 * 0 + e0) 1) 27 11 (nI (n + 1))) 37 (8 * 0 + e0) (nI (n + 1))) 27 0 (nI (n + 1))) 28 (n + 1) (nI 0)) 29 (n + 1) (nI j)) 30 (n + 1) z) 31 (n + 1) (nI E)) 47 0 (nI (n + 1))) 46 0 0) 34 (32 * 0 + j) z) 32 (n + 1) 1) 34 (32 * 1 + k) = u2 m 34 (32 * 0 + j) z 34 (32 * 1 + k) := rfl
    rw [r2, u2_k m z 34 (show 32 * 1 + k ≠ 32 * 0 + j by omega)]
    exact hD1 k hk
  · obtain ⟨g1, g2, g3, g4, g5, g6⟩ := hG1
    refine ⟨g1, g2, g3, fun e he => ?_, fun e he => ⟨(g5 e he).1, Nat.le_succ_of_le (g5 e he).2⟩, g6⟩
    have r1 : (u2 (u2 (u2 (u2 (u2 (u2 (u2 (u2 (u2 (u2 (u2 (u2 (u2 m 36 (8 * 0 + g) y) 36 (8 * 0 + e0) 1) 27 11 (nI (n + 1))) 37 (8 * 0 + e0) (nI (n + 1))) 27 0 (nI (n + 1))) 28 (n + 1) (nI 0)) 29 (n + 1) (nI j)) 30 (n + 1) z) 31 (n + 1) (nI E)) 47 0 (nI (n + 1))) 46 0 0) 34 (32 * 0 + j) z) 32 (n + 1) 1) 36 (8 * 1 + e) = u2 (u2 m 36 (8 * 0 + g) y) 36 (8 * 0 + e0) 1 36 (8 * 1 + e) := rfl
    have r2 : (u2 (u2 (u2 (u2 (u2 (u2 (u2 (u2 (u2 (u2 (u2 (u2 (u2 m 36 (8 * 0 + g) y) 36 (8 * 0 + e0) 1) 27 11 (nI (n + 1))) 37 (8 * 0 + e0) (nI (n + 1))) 27 0 (nI (n + 1))) 28 (n + 1) (nI 0)) 29 (n + 1) (nI j)) 30 (n + 1) z) 31 (n + 1) (nI E)) 47 0 (nI (n + 1))) 46 0 0) 34 (32 * 0 + j) z) 32 (n + 1) 1) 37 (8 * 1 + e) = u2 m 37 (8 * 0 + e0) (nI (n + 1)) 37 (8 * 1 + e) := rfl
    rw [r1, r2, u2_k _ _ _ (show 8 * 1 + e ≠ 8 * 0 + e0 by omega), u2_k _ _ _ (show 8 * 1 + e ≠ 8 * 0 + g by omega), u2_k _ _ _ (show 8 * 1 + e ≠ 8 * 0 + e0 by omega)]
    exact g4 e he
  · obtain ⟨a1, a2, a3, a4⟩ := hE1
    refine ⟨Nat.le_succ_of_le a1, ?_, a3, a4⟩
    have r1 : (u2 (u2 (u2 (u2 (u2 (u2 (u2 (u2 (u2 (u2 (u2 (u2 (u2 m 36 (8 * 0 + g) y) 36 (8 * 0 + e0) 1) 27 11 (nI (n + 1))) 37 (8 * 0 + e0) (nI (n + 1))) 27 0 (nI (n + 1))) 28 (n + 1) (nI 0)) 29 (n + 1) (nI j)) 30 (n + 1) z) 31 (n + 1) (nI E)) 47 0 (nI (n + 1))) 46 0 0) 34 (32 * 0 + j) z) 32 (n + 1) 1) 31 (pv 1) = u2 m 31 (n + 1) (nI E) 31 (pv 1) := rfl
    show v 11 15 = (u2 (u2 (u2 (u2 (u2 (u2 (u2 (u2 (u2 (u2 (u2 (u2 (u2 m 36 (8 * 0 + g) y) 36 (8 * 0 + e0) 1) 27 11 (nI (n + 1))) 37 (8 * 0 + e0) (nI (n + 1))) 27 0 (nI (n + 1))) 28 (n + 1) (nI 0)) 29 (n + 1) (nI j)) 30 (n + 1) z) 31 (n + 1) (nI E)) 47 0 (nI (n + 1))) 46 0 0) 34 (32 * 0 + j) z) 32 (n + 1) 1) 31 (pv 1)
    rw [r1, u2_k m _ 31 (show pv 1 ≠ n + 1 by omega)]
    exact a2
set_option maxHeartbeats 4000000 in
theorem w_rel_1 {n : Nat} {own blk ep ft : Nat → Nat} {sc : HH} {lk gr : Int32} {mp un : Nat → Nat → Bool} {q : Nat → List MSG} {wt : Nat → List Nat} {wx : Nat → Bool} {lg : Nat → List Nat} {us : Nat → Nat → Nat} {pv : Nat → Nat} {v m : HH} (hR : Rel n own blk ep ft sc lk gr mp un q wt wx lg us pv (v) (m)) (hn : n < 300) {j p g e0 E : Nat} (hj : j < 32) (he0 : e0 < 8) (hg8 : g < 8) (y z : Int32) {l' : List Nat} {us' : Nat → Nat} (hG' : GG 1 (n + 1) l' us' (nI l'.length) (pfr 11 (nI e0) p v 14) (u2 (u2 m 36 (8 * 1 + g) y) 36 (8 * 1 + e0) 1 36) (u2 m 37 (8 * 1 + e0) (nI (n + 1)) 37)) : Rel (n + 1) (ug own (n + 1) 1) (ug blk (n + 1) j) (ug ep (n + 1) E) (ug ft (n + 1) 1) sc lk gr mp un q wt wx (ug lg 1 l') (ug us 1 us') (ug pv 1 (n + 1)) (u2 (u2 (u2 (u2 (u2 (u2 (u2 (u2 (u2 (u2 (pfr 11 (nI e0) p v) 13 1 (nI l'.length)) 12 j z) 11 15 (nI E)) 11 16 0) 21 5 (nI (n + 1))) 22 (n + 1) (nI 1)) 23 (n + 1) (nI j)) 24 (n + 1) z) 25 (n + 1) (nI E)) 26 (n + 1) 1) (u2 (u2 (u2 (u2 (u2 (u2 (u2 (u2 (u2 (u2 (u2 (u2 (u2 m 36 (8 * 1 + g) y) 36 (8 * 1 + e0) 1) 27 11 (nI (n + 1))) 37 (8 * 1 + e0) (nI (n + 1))) 27 0 (nI (n + 1))) 28 (n + 1) (nI 1)) 29 (n + 1) (nI j)) 30 (n + 1) z) 31 (n + 1) (nI E)) 47 1 (nI (n + 1))) 46 1 0) 34 (32 * 1 + j) z) 32 (n + 1) 1) := by
  obtain ⟨hL, hT, hX, hS0, hM0, hD0, hR0, hA0, hW0, hG0, hU0, hE0, hS1, hM1, hD1, hR1, hA1, hW1, hG1, hU1, hE1⟩ := hR
  refine ⟨hL, ?_, hX, hS0, hM0, ?_, hR0, hA0, hW0, ?_, hU0, ?_, hS1, hM1, ?_, hR1, hA1, hW1, hG', hU1, ?_⟩
  · refine ⟨rfl, rfl, rfl, ?_, ?_⟩
    · have e31 : (u2 (u2 (u2 (u2 (u2 (u2 (u2 (u2 (u2 (u2 (u2 (u2 (u2 m 36 (8 * 1 + g) y) 36 (8 * 1 + e0) 1) 27 11 (nI (n + 1))) 37 (8 * 1 + e0) (nI (n + 1))) 27 0 (nI (n + 1))) 28 (n + 1) (nI 1)) 29 (n + 1) (nI j)) 30 (n + 1) z) 31 (n + 1) (nI E)) 47 1 (nI (n + 1))) 46 1 0) 34 (32 * 1 + j) z) 32 (n + 1) 1) 31 0 = u2 m 31 (n + 1) (nI E) 31 0 := rfl
      rw [e31, u2_k m _ 31 (by omega)]
      exact hT.2.2.2.1
    · intro w g1 g2
      have r22 : (u2 (u2 (u2 (u2 (u2 (u2 (u2 (u2 (u2 (u2 (pfr 11 (nI e0) p v) 13 1 (nI l'.length)) 12 j z) 11 15 (nI E)) 11 16 0) 21 5 (nI (n + 1))) 22 (n + 1) (nI 1)) 23 (n + 1) (nI j)) 24 (n + 1) z) 25 (n + 1) (nI E)) 26 (n + 1) 1) 22 w = u2 v 22 (n + 1) (nI 1) 22 w := rfl
      have r23 : (u2 (u2 (u2 (u2 (u2 (u2 (u2 (u2 (u2 (u2 (pfr 11 (nI e0) p v) 13 1 (nI l'.length)) 12 j z) 11 15 (nI E)) 11 16 0) 21 5 (nI (n + 1))) 22 (n + 1) (nI 1)) 23 (n + 1) (nI j)) 24 (n + 1) z) 25 (n + 1) (nI E)) 26 (n + 1) 1) 23 w = u2 v 23 (n + 1) (nI j) 23 w := rfl
      have r24 : (u2 (u2 (u2 (u2 (u2 (u2 (u2 (u2 (u2 (u2 (pfr 11 (nI e0) p v) 13 1 (nI l'.length)) 12 j z) 11 15 (nI E)) 11 16 0) 21 5 (nI (n + 1))) 22 (n + 1) (nI 1)) 23 (n + 1) (nI j)) 24 (n + 1) z) 25 (n + 1) (nI E)) 26 (n + 1) 1) 24 w = u2 v 24 (n + 1) z 24 w := rfl
      have r25 : (u2 (u2 (u2 (u2 (u2 (u2 (u2 (u2 (u2 (u2 (pfr 11 (nI e0) p v) 13 1 (nI l'.length)) 12 j z) 11 15 (nI E)) 11 16 0) 21 5 (nI (n + 1))) 22 (n + 1) (nI 1)) 23 (n + 1) (nI j)) 24 (n + 1) z) 25 (n + 1) (nI E)) 26 (n + 1) 1) 25 w = u2 v 25 (n + 1) (nI E) 25 w := rfl
      have r26 : (u2 (u2 (u2 (u2 (u2 (u2 (u2 (u2 (u2 (u2 (pfr 11 (nI e0) p v) 13 1 (nI l'.length)) 12 j z) 11 15 (nI E)) 11 16 0) 21 5 (nI (n + 1))) 22 (n + 1) (nI 1)) 23 (n + 1) (nI j)) 24 (n + 1) z) 25 (n + 1) (nI E)) 26 (n + 1) 1) 26 w = u2 v 26 (n + 1) 1 26 w := rfl
      have r28 : (u2 (u2 (u2 (u2 (u2 (u2 (u2 (u2 (u2 (u2 (u2 (u2 (u2 m 36 (8 * 1 + g) y) 36 (8 * 1 + e0) 1) 27 11 (nI (n + 1))) 37 (8 * 1 + e0) (nI (n + 1))) 27 0 (nI (n + 1))) 28 (n + 1) (nI 1)) 29 (n + 1) (nI j)) 30 (n + 1) z) 31 (n + 1) (nI E)) 47 1 (nI (n + 1))) 46 1 0) 34 (32 * 1 + j) z) 32 (n + 1) 1) 28 w = u2 m 28 (n + 1) (nI 1) 28 w := rfl
      have r29 : (u2 (u2 (u2 (u2 (u2 (u2 (u2 (u2 (u2 (u2 (u2 (u2 (u2 m 36 (8 * 1 + g) y) 36 (8 * 1 + e0) 1) 27 11 (nI (n + 1))) 37 (8 * 1 + e0) (nI (n + 1))) 27 0 (nI (n + 1))) 28 (n + 1) (nI 1)) 29 (n + 1) (nI j)) 30 (n + 1) z) 31 (n + 1) (nI E)) 47 1 (nI (n + 1))) 46 1 0) 34 (32 * 1 + j) z) 32 (n + 1) 1) 29 w = u2 m 29 (n + 1) (nI j) 29 w := rfl
      have r30 : (u2 (u2 (u2 (u2 (u2 (u2 (u2 (u2 (u2 (u2 (u2 (u2 (u2 m 36 (8 * 1 + g) y) 36 (8 * 1 + e0) 1) 27 11 (nI (n + 1))) 37 (8 * 1 + e0) (nI (n + 1))) 27 0 (nI (n + 1))) 28 (n + 1) (nI 1)) 29 (n + 1) (nI j)) 30 (n + 1) z) 31 (n + 1) (nI E)) 47 1 (nI (n + 1))) 46 1 0) 34 (32 * 1 + j) z) 32 (n + 1) 1) 30 w = u2 m 30 (n + 1) z 30 w := rfl
      have r31 : (u2 (u2 (u2 (u2 (u2 (u2 (u2 (u2 (u2 (u2 (u2 (u2 (u2 m 36 (8 * 1 + g) y) 36 (8 * 1 + e0) 1) 27 11 (nI (n + 1))) 37 (8 * 1 + e0) (nI (n + 1))) 27 0 (nI (n + 1))) 28 (n + 1) (nI 1)) 29 (n + 1) (nI j)) 30 (n + 1) z) 31 (n + 1) (nI E)) 47 1 (nI (n + 1))) 46 1 0) 34 (32 * 1 + j) z) 32 (n + 1) 1) 31 w = u2 m 31 (n + 1) (nI E) 31 w := rfl
      have r32 : (u2 (u2 (u2 (u2 (u2 (u2 (u2 (u2 (u2 (u2 (u2 (u2 (u2 m 36 (8 * 1 + g) y) 36 (8 * 1 + e0) 1) 27 11 (nI (n + 1))) 37 (8 * 1 + e0) (nI (n + 1))) 27 0 (nI (n + 1))) 28 (n + 1) (nI 1)) 29 (n + 1) (nI j)) 30 (n + 1) z) 31 (n + 1) (nI E)) 47 1 (nI (n + 1))) 46 1 0) 34 (32 * 1 + j) z) 32 (n + 1) 1) 32 w = u2 m 32 (n + 1) 1 32 w := rfl
      rw [r22, r23, r24, r25, r26, r28, r29, r30, r31, r32]
      by_cases hw : w = n + 1
      · subst hw
        have u1 : ug own (n + 1) 1 (n + 1) = 1 := if_pos rfl
        have u2a : ug blk (n + 1) j (n + 1) = j := if_pos rfl
        have u3 : ug ep (n + 1) E (n + 1) = E := if_pos rfl
        have u4 : ug ft (n + 1) 1 (n + 1) = 1 := if_pos rfl
        rw [u2_s, u2_s, u2_s, u2_s, u2_s, u2_s, u2_s, u2_s, u2_s, u2_s, u1, u2a, u3, u4]
        exact ⟨⟨rfl, rfl, rfl, rfl, li1⟩, rfl, rfl, rfl, li1⟩
      · have u1 : ug own (n + 1) 1 w = own w := if_neg hw
        have u2a : ug blk (n + 1) j w = blk w := if_neg hw
        have u3 : ug ep (n + 1) E w = ep w := if_neg hw
        have u4 : ug ft (n + 1) 1 w = ft w := if_neg hw
        rw [u2_k _ _ _ hw, u2_k _ _ _ hw, u2_k _ _ _ hw, u2_k _ _ _ hw, u2_k _ _ _ hw, u2_k _ _ _ hw, u2_k _ _ _ hw, u2_k _ _ _ hw, u2_k _ _ _ hw, u2_k _ _ _ hw, u1, u2a, u3, u4]
        exact hT.2.2.2.2 w g1 (by omega)
  · intro k hk
    have r2 : (u2 (u2 (u2 (u2 (u2 (u2 (u2 (u2 (u2 (u2 (u2 (u2 (u2 m 36 (8 * 1 + g) y) 36 (8 * 1 + e0) 1) 27 11 (nI (n + 1))) 37 (8 * 1 + e0) (nI (n + 1))) 27 0 (nI (n + 1))) 28 (n + 1) (nI 1)) 29 (n + 1) (nI j)) 30 (n + 1) z) 31 (n + 1) (nI E)) 47 1 (nI (n + 1))) 46 1 0) 34 (32 * 1 + j) z) 32 (n + 1) 1) 34 (32 * 0 + k) = u2 m 34 (32 * 1 + j) z 34 (32 * 0 + k) := rfl
    rw [r2, u2_k m z 34 (show 32 * 0 + k ≠ 32 * 1 + j by omega)]
    exact hD0 k hk
  · obtain ⟨g1, g2, g3, g4, g5, g6⟩ := hG0
    refine ⟨g1, g2, g3, fun e he => ?_, fun e he => ⟨(g5 e he).1, Nat.le_succ_of_le (g5 e he).2⟩, g6⟩
    have r1 : (u2 (u2 (u2 (u2 (u2 (u2 (u2 (u2 (u2 (u2 (u2 (u2 (u2 m 36 (8 * 1 + g) y) 36 (8 * 1 + e0) 1) 27 11 (nI (n + 1))) 37 (8 * 1 + e0) (nI (n + 1))) 27 0 (nI (n + 1))) 28 (n + 1) (nI 1)) 29 (n + 1) (nI j)) 30 (n + 1) z) 31 (n + 1) (nI E)) 47 1 (nI (n + 1))) 46 1 0) 34 (32 * 1 + j) z) 32 (n + 1) 1) 36 (8 * 0 + e) = u2 (u2 m 36 (8 * 1 + g) y) 36 (8 * 1 + e0) 1 36 (8 * 0 + e) := rfl
    have r2 : (u2 (u2 (u2 (u2 (u2 (u2 (u2 (u2 (u2 (u2 (u2 (u2 (u2 m 36 (8 * 1 + g) y) 36 (8 * 1 + e0) 1) 27 11 (nI (n + 1))) 37 (8 * 1 + e0) (nI (n + 1))) 27 0 (nI (n + 1))) 28 (n + 1) (nI 1)) 29 (n + 1) (nI j)) 30 (n + 1) z) 31 (n + 1) (nI E)) 47 1 (nI (n + 1))) 46 1 0) 34 (32 * 1 + j) z) 32 (n + 1) 1) 37 (8 * 0 + e) = u2 m 37 (8 * 1 + e0) (nI (n + 1)) 37 (8 * 0 + e) := rfl
    rw [r1, r2, u2_k _ _ _ (show 8 * 0 + e ≠ 8 * 1 + e0 by omega), u2_k _ _ _ (show 8 * 0 + e ≠ 8 * 1 + g by omega), u2_k _ _ _ (show 8 * 0 + e ≠ 8 * 1 + e0 by omega)]
    exact g4 e he
  · obtain ⟨a1, a2, a3, a4⟩ := hE0
    refine ⟨Nat.le_succ_of_le a1, ?_, a3, a4⟩
    have r1 : (u2 (u2 (u2 (u2 (u2 (u2 (u2 (u2 (u2 (u2 (u2 (u2 (u2 m 36 (8 * 1 + g) y) 36 (8 * 1 + e0) 1) 27 11 (nI (n + 1))) 37 (8 * 1 + e0) (nI (n + 1))) 27 0 (nI (n + 1))) 28 (n + 1) (nI 1)) 29 (n + 1) (nI j)) 30 (n + 1) z) 31 (n + 1) (nI E)) 47 1 (nI (n + 1))) 46 1 0) 34 (32 * 1 + j) z) 32 (n + 1) 1) 31 (pv 0) = u2 m 31 (n + 1) (nI E) 31 (pv 0) := rfl
    show v 1 15 = (u2 (u2 (u2 (u2 (u2 (u2 (u2 (u2 (u2 (u2 (u2 (u2 (u2 m 36 (8 * 1 + g) y) 36 (8 * 1 + e0) 1) 27 11 (nI (n + 1))) 37 (8 * 1 + e0) (nI (n + 1))) 27 0 (nI (n + 1))) 28 (n + 1) (nI 1)) 29 (n + 1) (nI j)) 30 (n + 1) z) 31 (n + 1) (nI E)) 47 1 (nI (n + 1))) 46 1 0) 34 (32 * 1 + j) z) 32 (n + 1) 1) 31 (pv 0)
    rw [r1, u2_k m _ 31 (show pv 0 ≠ n + 1 by omega)]
    exact a2
  · intro k hk
    have r1 : (u2 (u2 (u2 (u2 (u2 (u2 (u2 (u2 (u2 (u2 (pfr 11 (nI e0) p v) 13 1 (nI l'.length)) 12 j z) 11 15 (nI E)) 11 16 0) 21 5 (nI (n + 1))) 22 (n + 1) (nI 1)) 23 (n + 1) (nI j)) 24 (n + 1) z) 25 (n + 1) (nI E)) 26 (n + 1) 1) 12 k = u2 v 12 j z 12 k := rfl
    have r2 : (u2 (u2 (u2 (u2 (u2 (u2 (u2 (u2 (u2 (u2 (u2 (u2 (u2 m 36 (8 * 1 + g) y) 36 (8 * 1 + e0) 1) 27 11 (nI (n + 1))) 37 (8 * 1 + e0) (nI (n + 1))) 27 0 (nI (n + 1))) 28 (n + 1) (nI 1)) 29 (n + 1) (nI j)) 30 (n + 1) z) 31 (n + 1) (nI E)) 47 1 (nI (n + 1))) 46 1 0) 34 (32 * 1 + j) z) 32 (n + 1) 1) 34 (32 * 1 + k) = u2 m 34 (32 * 1 + j) z 34 (32 * 1 + k) := rfl
    rw [r1, r2]
    by_cases e : k = j
    · subst e
      rw [u2_s, u2_s]
    · rw [u2_k v z 12 e, u2_k m z 34 (show 32 * 1 + k ≠ 32 * 1 + j by omega)]
      exact hD1 k hk
  · refine ⟨Nat.le_refl _, ?_, rfl, ?_⟩
    · have r1 : (u2 (u2 (u2 (u2 (u2 (u2 (u2 (u2 (u2 (u2 (u2 (u2 (u2 m 36 (8 * 1 + g) y) 36 (8 * 1 + e0) 1) 27 11 (nI (n + 1))) 37 (8 * 1 + e0) (nI (n + 1))) 27 0 (nI (n + 1))) 28 (n + 1) (nI 1)) 29 (n + 1) (nI j)) 30 (n + 1) z) 31 (n + 1) (nI E)) 47 1 (nI (n + 1))) 46 1 0) 34 (32 * 1 + j) z) 32 (n + 1) 1) 31 (n + 1) = u2 m 31 (n + 1) (nI E) 31 (n + 1) := rfl
      show nI E = (u2 (u2 (u2 (u2 (u2 (u2 (u2 (u2 (u2 (u2 (u2 (u2 (u2 m 36 (8 * 1 + g) y) 36 (8 * 1 + e0) 1) 27 11 (nI (n + 1))) 37 (8 * 1 + e0) (nI (n + 1))) 27 0 (nI (n + 1))) 28 (n + 1) (nI 1)) 29 (n + 1) (nI j)) 30 (n + 1) z) 31 (n + 1) (nI E)) 47 1 (nI (n + 1))) 46 1 0) 34 (32 * 1 + j) z) 32 (n + 1) 1) 31 (n + 1)
      rw [r1, u2_s]
    · exact ⟨fun _ => ⟨Nat.succ_ne_zero n, rfl⟩, fun _ => rfl⟩
