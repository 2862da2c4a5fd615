abbrev MSG : Type := Nat × Nat × Int32
def sbj (a : MSG) : Int32 := if a.1 = 5 then a.2.2 else nI a.2.1
def vlu (a : MSG) : Int32 := if a.1 = 3 then a.2.2 else 0
def GL (lk gr a b c d : Int32) : Prop := a = lk ∧ b = gr ∧ c = lk ∧ d = gr
def GT (n : Nat) (own blk ep ft : Nat → Nat) (a5 : Int32) (v22 v23 v24 v25 v26 : Nat → Int32) (b0 b11 : Int32) (m28 m29 m30 m31 m32 : Nat → Int32) : Prop := a5 = nI n ∧ b0 = nI n ∧ b11 = nI n ∧ m31 0 = 0 ∧ ∀ w, 1 ≤ w → w ≤ n → (v22 w = nI (own w) ∧ v23 w = nI (blk w) ∧ v24 w = m30 w ∧ v25 w = nI (ep w) ∧ v26 w = nI (ft w)) ∧ (m28 w = nI (own w) ∧ m29 w = nI (blk w) ∧ m31 w = nI (ep w) ∧ m32 w = nI (ft w))
def GS (b : Nat) (sc : HH) (r0 r6 r7 r8 r9 r10 r11 r12 r13 a6 a7 a8 a9 a10 a11 a12 a13 : Int32) : Prop := r0 = nI b ∧ r6 = sc 6 b ∧ r7 = sc 7 b ∧ r8 = sc 8 b ∧ r9 = sc 9 b ∧ r10 = sc 10 b ∧ r11 = sc 11 b ∧ r12 = sc 12 b ∧ r13 = sc 13 b ∧ a6 = sc 6 b ∧ a7 = sc 7 b ∧ a8 = sc 8 b ∧ a9 = sc 9 b ∧ a10 = sc 10 b ∧ a11 = sc 11 b ∧ a12 = sc 12 b ∧ a13 = sc 13 b
def GM (b : Nat) (f : Nat → Bool) (x : Int32) (a : Nat → Int32) : Prop := ∀ j, j < 32 → bt x j = f j ∧ a (32 * b + j) = bi (f j)
def GD (b : Nat) (r a : Nat → Int32) : Prop := ∀ j, j < 32 → r j = a (32 * b + j)
def GR (l : List MSG) (x3 x4 : Int32) (r5 r6 r7 : Nat → Int32) : Prop := ∃ f, f < 25 ∧ l.length ≤ 25 ∧ x3 = nI f ∧ x4 = nI l.length ∧ ∀ k a, l[k]? = some a → r5 ((f + k) % 25) = nI a.1 ∧ r6 ((f + k) % 25) = sbj a ∧ r7 ((f + k) % 25) = vlu a
def GA (b : Nat) (l : List MSG) (c : Int32) (a48 a49 a50 : Nat → Int32) : Prop := c = nI l.length ∧ ∀ k a, l[k]? = some a → a48 (64 * b + k) = nI a.1 ∧ a49 (64 * b + k) = sbj a ∧ a50 (64 * b + k) = vlu a
def GW (l : List Nat) (x : Int32) (r : Nat → Int32) : Prop := l.length ≤ 8 ∧ x = nI l.length ∧ ∀ k w, l[k]? = some w → r k = nI w
def GX (f : Nat → Bool) (a : Nat → Int32) : Prop := ∀ w, 1 ≤ w → w ≤ 300 → a w = bi (f w)
def GG (b n : Nat) (l : List Nat) (us : Nat → Nat) (x : Int32) (r a36 a37 : Nat → Int32) : Prop := l.length ≤ 3 ∧ x = nI l.length ∧ (∀ k e, l[k]? = some e → r k = nI e) ∧ (∀ e, e < 8 → a36 (8 * b + e) = bi (decide (e ∈ l)) ∧ a37 (8 * b + e) = nI (us e)) ∧ (∀ e, e ∈ l → e < 8 ∧ us e ≤ n) ∧ l.Pairwise (fun e e' => us e' < us e)
def GU (f : Nat → Bool) (x : Int32) : Prop := ∀ j, j < 32 → bt x j = f j
def GE (n p : Nat) (x15 x16 : Int32) (m31 : Nat → Int32) (y47 y46 : Int32) : Prop := p ≤ n ∧ x15 = m31 p ∧ y47 = nI p ∧ (x16 = 0 ↔ (p ≠ 0 ∧ y46 = 0))
def Rel (n : Nat) (own blk ep ft : Nat → Nat) (sc : HH) (lk gr : Int32) (mp un : Nat → Nat → Bool) (q : Nat → List MSG) (wt : Nat → List Nat) (wx : Nat → Bool) (lg : Nat → List Nat) (us : Nat → Nat → Nat) (pv : Nat → Nat) (v m : HH) : Prop :=
  GL lk gr (v 0 3) (v 0 4) (m 27 23) (m 27 14) ∧
  GT n own blk ep ft (v 21 5) (v 22) (v 23) (v 24) (v 25) (v 26) (m 27 0) (m 27 11) (m 28) (m 29) (m 30) (m 31) (m 32) ∧
  GX wx (m 33) ∧
  GS 0 sc (v 1 0) (v 1 6) (v 1 7) (v 1 8) (v 1 9) (v 1 10) (v 1 11) (v 1 12) (v 1 13) (m 38 0) (m 39 0) (m 40 0) (m 41 0) (m 42 0) (m 43 0) (m 44 0) (m 45 0) ∧
  GM 0 (mp 0) (v 1 5) (m 35) ∧
  GD 0 (v 2) (m 34) ∧
  GR (q 0) (v 5 3) (v 5 4) (v 6) (v 7) (v 8) ∧
  GA 0 (q 0) (m 51 0) (m 48) (m 49) (m 50) ∧
  GW (wt 0) (v 9 1) (v 10) ∧
  GG 0 n (lg 0) (us 0) (v 3 1) (v 4) (m 36) (m 37) ∧
  GU (un 0) (v 1 14) ∧
  GE n (pv 0) (v 1 15) (v 1 16) (m 31) (m 47 0) (m 46 0) ∧
  GS 1 sc (v 11 0) (v 11 6) (v 11 7) (v 11 8) (v 11 9) (v 11 10) (v 11 11) (v 11 12) (v 11 13) (m 38 1) (m 39 1) (m 40 1) (m 41 1) (m 42 1) (m 43 1) (m 44 1) (m 45 1) ∧
  GM 1 (mp 1) (v 11 5) (m 35) ∧
  GD 1 (v 12) (m 34) ∧
  GR (q 1) (v 15 3) (v 15 4) (v 16) (v 17) (v 18) ∧
  GA 1 (q 1) (m 51 1) (m 48) (m 49) (m 50) ∧
  GW (wt 1) (v 19 1) (v 20) ∧
  GG 1 n (lg 1) (us 1) (v 13 1) (v 14) (m 36) (m 37) ∧
  GU (un 1) (v 11 14) ∧
  GE n (pv 1) (v 11 15) (v 11 16) (m 31) (m 47 1) (m 46 1)
theorem r_set_6_0 {n : Nat} {own blk ep ft : Nat → Nat} {sc : HH} {lk gr : Int32} {mp un : Nat → Nat → Bool} {q : Nat → List MSG} {wt : Nat → List Nat} {wx : Nat → Bool} {lg : Nat → List Nat} {us : Nat → Nat → Nat} {pv : Nat → Nat} {v m : HH} (hR : Rel n own blk ep ft sc lk gr mp un q wt wx lg us pv (v) (m)) (x : Int32) : Rel n own blk ep ft (u2 sc 6 0 x) lk gr mp un q wt wx lg us pv (u2 v 1 6 x) (u2 m 38 0 x) := by
  obtain ⟨hL, hT, hX, hS0, hM0, hD0, hR0, hA0, hW0, hG0, hU0, hE0, hS1, hM1, hD1, hR1, hA1, hW1, hG1, hU1, hE1⟩ := hR
  obtain ⟨a0, a1, a2, a3, a4, a5, a6, a7, a8, a9, a10, a11, a12, a13, a14, a15, a16⟩ := hS0
  exact ⟨hL, hT, hX, ⟨a0, rfl, a2, a3, a4, a5, a6, a7, a8, rfl, a10, a11, a12, a13, a14, a15, a16⟩, hM0, hD0, hR0, hA0, hW0, hG0, hU0, hE0, hS1, hM1, hD1, hR1, hA1, hW1, hG1, hU1, hE1⟩
theorem r_set_7_0 {n : Nat} {own blk ep ft : Nat → Nat} {sc : HH} {lk gr : Int32} {mp un : Nat → Nat → Bool} {q : Nat → List MSG} {wt : Nat → List Nat} {wx : Nat → Bool} {lg : Nat → List Nat} {us : Nat → Nat → Nat} {pv : Nat → Nat} {v m : HH} (hR : Rel n own blk ep ft sc lk gr mp un q wt wx lg us pv (v) (m)) (x : Int32) : Rel n own blk ep ft (u2 sc 7 0 x) lk gr mp un q wt wx lg us pv (u2 v 1 7 x) (u2 m 39 0 x) := by
  obtain ⟨hL, hT, hX, hS0, hM0, hD0, hR0, hA0, hW0, hG0, hU0, hE0, hS1, hM1, hD1, hR1, hA1, hW1, hG1, hU1, hE1⟩ := hR
  obtain ⟨a0, a1, a2, a3, a4, a5, a6, a7, a8, a9, a10, a11, a12, a13, a14, a15, a16⟩ := hS0
  exact ⟨hL, hT, hX, ⟨a0, a1, rfl, a3, a4, a5, a6, a7, a8, a9, rfl, a11, a12, a13, a14, a15, a16⟩, hM0, hD0, hR0, hA0, hW0, hG0, hU0, hE0, hS1, hM1, hD1, hR1, hA1, hW1, hG1, hU1, hE1⟩
theorem r_set_8_0 {n : Nat} {own blk ep ft : Nat → Nat} {sc : HH} {lk gr : Int32} {mp un : Nat → Nat → Bool} {q : Nat → List MSG} {wt : Nat → List Nat} {wx : Nat → Bool} {lg : Nat → List Nat} {us : Nat → Nat → Nat} {pv : Nat → Nat} {v m : HH} (hR : Rel n own blk ep ft sc lk gr mp un q wt wx lg us pv (v) (m)) (x : Int32) : Rel n own blk ep ft (u2 sc 8 0 x) lk gr mp un q wt wx lg us pv (u2 v 1 8 x) (u2 m 40 0 x) := by
  obtain ⟨hL, hT, hX, hS0, hM0, hD0, hR0, hA0, hW0, hG0, hU0, hE0, hS1, hM1, hD1, hR1, hA1, hW1, hG1, hU1, hE1⟩ := hR
  obtain ⟨a0, a1, a2, a3, a4, a5, a6, a7, a8, a9, a10, a11, a12, a13, a14, a15, a16⟩ := hS0
  exact ⟨hL, hT, hX, ⟨a0, a1, a2, rfl, a4, a5, a6, a7, a8, a9, a10, rfl, a12, a13, a14, a15, a16⟩, hM0, hD0, hR0, hA0, hW0, hG0, hU0, hE0, hS1, hM1, hD1, hR1, hA1, hW1, hG1, hU1, hE1⟩
theorem r_set_9_0 {n : Nat} {own blk ep ft : Nat → Nat} {sc : HH} {lk gr : Int32} {mp un : Nat → Nat → Bool} {q : Nat → List MSG} {wt : Nat → List Nat} {wx : Nat → Bool} {lg : Nat → List Nat} {us : Nat → Nat → Nat} {pv : Nat → Nat} {v m : HH} (hR : Rel n own blk ep ft sc lk gr mp un q wt wx lg us pv (v) (m)) (x : Int32) : Rel n own blk ep ft (u2 sc 9 0 x) lk gr mp un q wt wx lg us pv (u2 v 1 9 x) (u2 m 41 0 x) := by
  obtain ⟨hL, hT, hX, hS0, hM0, hD0, hR0, hA0, hW0, hG0, hU0, hE0, hS1, hM1, hD1, hR1, hA1, hW1, hG1, hU1, hE1⟩ := hR
  obtain ⟨a0, a1, a2, a3, a4, a5, a6, a7, a8, a9, a10, a11, a12, a13, a14, a15, a16⟩ := hS0
  exact ⟨hL, hT, hX, ⟨a0, a1, a2, a3, rfl, a5, a6, a7, a8, a9, a10, a11, rfl, a13, a14, a15, a16⟩, hM0, hD0, hR0, hA0, hW0, hG0, hU0, hE0, hS1, hM1, hD1, hR1, hA1, hW1, hG1, hU1, hE1⟩
theorem r_set_10_0 {n : Nat} {own blk ep ft : Nat → Nat} {sc : HH} {lk gr : Int32} {mp un : Nat → Nat → Bool} {q : Nat → List MSG} {wt : Nat → List Nat} {wx : Nat → Bool} {lg : Nat → List Nat} {us : Nat → Nat → Nat} {pv : Nat → Nat} {v m : HH} (hR : Rel n own blk ep ft sc lk gr mp un q wt wx lg us pv (v) (m)) (x : Int32) : Rel n own blk ep ft (u2 sc 10 0 x) lk gr mp un q wt wx lg us pv (u2 v 1 10 x) (u2 m 42 0 x) := by
  obtain ⟨hL, hT, hX, hS0, hM0, hD0, hR0, hA0, hW0, hG0, hU0, hE0, hS1, hM1, hD1, hR1, hA1, hW1, hG1, hU1, hE1⟩ := hR
  obtain ⟨a0, a1, a2, a3, a4, a5, a6, a7, a8, a9, a10, a11, a12, a13, a14, a15, a16⟩ := hS0
  exact ⟨hL, hT, hX, ⟨a0, a1, a2, a3, a4, rfl, a6, a7, a8, a9, a10, a11, a12, rfl, a14, a15, a16⟩, hM0, hD0, hR0, hA0, hW0, hG0, hU0, hE0, hS1, hM1, hD1, hR1, hA1, hW1, hG1, hU1, hE1⟩
theorem r_set_11_0 {n : Nat} {own blk ep ft : Nat → Nat} {sc : HH} {lk gr : Int32} {mp un : Nat → Nat → Bool} {q : Nat → List MSG} {wt : Nat → List Nat} {wx : Nat → Bool} {lg : Nat → List Nat} {us : Nat → Nat → Nat} {pv : Nat → Nat} {v m : HH} (hR : Rel n own blk ep ft sc lk gr mp un q wt wx lg us pv (v) (m)) (x : Int32) : Rel n own blk ep ft (u2 sc 11 0 x) lk gr mp un q wt wx lg us pv (u2 v 1 11 x) (u2 m 43 0 x) := by
  obtain ⟨hL, hT, hX, hS0, hM0, hD0, hR0, hA0, hW0, hG0, hU0, hE0, hS1, hM1, hD1, hR1, hA1, hW1, hG1, hU1, hE1⟩ := hR
  obtain ⟨a0, a1, a2, a3, a4, a5, a6, a7, a8, a9, a10, a11, a12, a13, a14, a15, a16⟩ := hS0
  exact ⟨hL, hT, hX, ⟨a0, a1, a2, a3, a4, a5, rfl, a7, a8, a9, a10, a11, a12, a13, rfl, a15, a16⟩, hM0, hD0, hR0, hA0, hW0, hG0, hU0, hE0, hS1, hM1, hD1, hR1, hA1, hW1, hG1, hU1, hE1⟩
theorem r_set_12_0 {n : Nat} {own blk ep ft : Nat → Nat} {sc : HH} {lk gr : Int32} {mp un : Nat → Nat → Bool} {q : Nat → List MSG} {wt : Nat → List Nat} {wx : Nat → Bool} {lg : Nat → List Nat} {us : Nat → Nat → Nat} {pv : Nat → Nat} {v m : HH} (hR : Rel n own blk ep ft sc lk gr mp un q wt wx lg us pv (v) (m)) (x : Int32) : Rel n own blk ep ft (u2 sc 12 0 x) lk gr mp un q wt wx lg us pv (u2 v 1 12 x) (u2 m 44 0 x) := by
  obtain ⟨hL, hT, hX, hS0, hM0, hD0, hR0, hA0, hW0, hG0, hU0, hE0, hS1, hM1, hD1, hR1, hA1, hW1, hG1, hU1, hE1⟩ := hR
  obtain ⟨a0, a1, a2, a3, a4, a5, a6, a7, a8, a9, a10, a11, a12, a13, a14, a15, a16⟩ := hS0
  exact ⟨hL, hT, hX, ⟨a0, a1, a2, a3, a4, a5, a6, rfl, a8, a9, a10, a11, a12, a13, a14, rfl, a16⟩, hM0, hD0, hR0, hA0, hW0, hG0, hU0, hE0, hS1, hM1, hD1, hR1, hA1, hW1, hG1, hU1, hE1⟩
theorem r_set_13_0 {n : Nat} {own blk ep ft : Nat → Nat} {sc : HH} {lk gr : Int32} {mp un : Nat → Nat → Bool} {q : Nat → List MSG} {wt : Nat → List Nat} {wx : Nat → Bool} {lg : Nat → List Nat} {us : Nat → Nat → Nat} {pv : Nat → Nat} {v m : HH} (hR : Rel n own blk ep ft sc lk gr mp un q wt wx lg us pv (v) (m)) (x : Int32) : Rel n own blk ep ft (u2 sc 13 0 x) lk gr mp un q wt wx lg us pv (u2 v 1 13 x) (u2 m 45 0 x) := by
  obtain ⟨hL, hT, hX, hS0, hM0, hD0, hR0, hA0, hW0, hG0, hU0, hE0, hS1, hM1, hD1, hR1, hA1, hW1, hG1, hU1, hE1⟩ := hR
  obtain ⟨a0, a1, a2, a3, a4, a5, a6, a7, a8, a9, a10, a11, a12, a13, a14, a15, a16⟩ := hS0
  exact ⟨hL, hT, hX, ⟨a0, a1, a2, a3, a4, a5, a6, a7, rfl, a9, a10, a11, a12, a13, a14, a15, rfl⟩, hM0, hD0, hR0, hA0, hW0, hG0, hU0, hE0, hS1, hM1, hD1, hR1, hA1, hW1, hG1, hU1, hE1⟩
theorem r_set_6_1 {n : Nat} {own blk ep ft : Nat → Nat} {sc : HH} {lk gr : Int32} {mp un : Nat → Nat → Bool} {q : Nat → List MSG} {wt : Nat → List Nat} {wx : Nat → Bool} {lg : Nat → List Nat} {us : Nat → Nat → Nat} {pv : Nat → Nat} {v m : HH} (hR : Rel n own blk ep ft sc lk gr mp un q wt wx lg us pv (v) (m)) (x : Int32) : Rel n own blk ep ft (u2 sc 6 1 x) lk gr mp un q wt wx lg us pv (u2 v 11 6 x) (u2 m 38 1 x) := by
  obtain ⟨hL, hT, hX, hS0, hM0, hD0, hR0, hA0, hW0, hG0, hU0, hE0, hS1, hM1, hD1, hR1, hA1, hW1, hG1, hU1, hE1⟩ := hR
  obtain ⟨a0, a1, a2, a3, a4, a5, a6, a7, a8, a9, a10, a11, a12, a13, a14, a15, a16⟩ := hS1
  exact ⟨hL, hT, hX, hS0, hM0, hD0, hR0, hA0, hW0, hG0, hU0, hE0, ⟨a0, rfl, a2, a3, a4, a5, a6, a7, a8, rfl, a10, a11, a12, a13, a14, a15, a16⟩, hM1, hD1, hR1, hA1, hW1, hG1, hU1, hE1⟩
theorem r_set_7_1 {n : Nat} {own blk ep ft : Nat → Nat} {sc : HH} {lk gr : Int32} {mp un : Nat → Nat → Bool} {q : Nat → List MSG} {wt : Nat → List Nat} {wx : Nat → Bool} {lg : Nat → List Nat} {us : Nat → Nat → Nat} {pv : Nat → Nat} {v m : HH} (hR : Rel n own blk ep ft sc lk gr mp un q wt wx lg us pv (v) (m)) (x : Int32) : Rel n own blk ep ft (u2 sc 7 1 x) lk gr mp un q wt wx lg us pv (u2 v 11 7 x) (u2 m 39 1 x) := by
  obtain ⟨hL, hT, hX, hS0, hM0, hD0, hR0, hA0, hW0, hG0, hU0, hE0, hS1, hM1, hD1, hR1, hA1, hW1, hG1, hU1, hE1⟩ := hR
  obtain ⟨a0, a1, a2, a3, a4, a5, a6, a7, a8, a9, a10, a11, a12, a13, a14, a15, a16⟩ := hS1
  exact ⟨hL, hT, hX, hS0, hM0, hD0, hR0, hA0, hW0, hG0, hU0, hE0, ⟨a0, a1, rfl, a3, a4, a5, a6, a7, a8, a9, rfl, a11, a12, a13, a14, a15, a16⟩, hM1, hD1, hR1, hA1, hW1, hG1, hU1, hE1⟩
theorem r_set_8_1 {n : Nat} {own blk ep ft : Nat → Nat} {sc : HH} {lk gr : Int32} {mp un : Nat → Nat → Bool} {q : Nat → List MSG} {wt : Nat → List Nat} {wx : Nat → Bool} {lg : Nat → List Nat} {us : Nat → Nat → Nat} {pv : Nat → Nat} {v m : HH} (hR : Rel n own blk ep ft sc lk gr mp un q wt wx lg us pv (v) (m)) (x : Int32) : Rel n own blk ep ft (u2 sc 8 1 x) lk gr mp un q wt wx lg us pv (u2 v 11 8 x) (u2 m 40 1 x) := by
  obtain ⟨hL, hT, hX, hS0, hM0, hD0, hR0, hA0, hW0, hG0, hU0, hE0, hS1, hM1, hD1, hR1, hA1, hW1, hG1, hU1, hE1⟩ := hR
  obtain ⟨a0, a1, a2, a3, a4, a5, a6, a7, a8, a9, a10, a11, a12, a13, a14, a15, a16⟩ := hS1
  exact ⟨hL, hT, hX, hS0, hM0, hD0, hR0, hA0, hW0, hG0, hU0, hE0, ⟨a0, a1, a2, rfl, a4, a5, a6, a7, a8, a9, a10, rfl, a12, a13, a14, a15, a16⟩, hM1, hD1, hR1, hA1, hW1, hG1, hU1, hE1⟩
theorem r_set_9_1 {n : Nat} {own blk ep ft : Nat → Nat} {sc : HH} {lk gr : Int32} {mp un : Nat → Nat → Bool} {q : Nat → List MSG} {wt : Nat → List Nat} {wx : Nat → Bool} {lg : Nat → List Nat} {us : Nat → Nat → Nat} {pv : Nat → Nat} {v m : HH} (hR : Rel n own blk ep ft sc lk gr mp un q wt wx lg us pv (v) (m)) (x : Int32) : Rel n own blk ep ft (u2 sc 9 1 x) lk gr mp un q wt wx lg us pv (u2 v 11 9 x) (u2 m 41 1 x) := by
  obtain ⟨hL, hT, hX, hS0, hM0, hD0, hR0, hA0, hW0, hG0, hU0, hE0, hS1, hM1, hD1, hR1, hA1, hW1, hG1, hU1, hE1⟩ := hR
  obtain ⟨a0, a1, a2, a3, a4, a5, a6, a7, a8, a9, a10, a11, a12, a13, a14, a15, a16⟩ := hS1
  exact ⟨hL, hT, hX, hS0, hM0, hD0, hR0, hA0, hW0, hG0, hU0, hE0, ⟨a0, a1, a2, a3, rfl, a5, a6, a7, a8, a9, a10, a11, rfl, a13, a14, a15, a16⟩, hM1, hD1, hR1, hA1, hW1, hG1, hU1, hE1⟩
theorem r_set_10_1 {n : Nat} {own blk ep ft : Nat → Nat} {sc : HH} {lk gr : Int32} {mp un : Nat → Nat → Bool} {q : Nat → List MSG} {wt : Nat → List Nat} {wx : Nat → Bool} {lg : Nat → List Nat} {us : Nat → Nat → Nat} {pv : Nat → Nat} {v m : HH} (hR : Rel n own blk ep ft sc lk gr mp un q wt wx lg us pv (v) (m)) (x : Int32) : Rel n own blk ep ft (u2 sc 10 1 x) lk gr mp un q wt wx lg us pv (u2 v 11 10 x) (u2 m 42 1 x) := by
  obtain ⟨hL, hT, hX, hS0, hM0, hD0, hR0, hA0, hW0, hG0, hU0, hE0, hS1, hM1, hD1, hR1, hA1, hW1, hG1, hU1, hE1⟩ := hR
  obtain ⟨a0, a1, a2, a3, a4, a5, a6, a7, a8, a9, a10, a11, a12, a13, a14, a15, a16⟩ := hS1
  exact ⟨hL, hT, hX, hS0, hM0, hD0, hR0, hA0, hW0, hG0, hU0, hE0, ⟨a0, a1, a2, a3, a4, rfl, a6, a7, a8, a9, a10, a11, a12, rfl, a14, a15, a16⟩, hM1, hD1, hR1, hA1, hW1, hG1, hU1, hE1⟩
theorem r_set_11_1 {n : Nat} {own blk ep ft : Nat → Nat} {sc : HH} {lk gr : Int32} {mp un : Nat → Nat → Bool} {q : Nat → List MSG} {wt : Nat → List Nat} {wx : Nat → Bool} {lg : Nat → List Nat} {us : Nat → Nat → Nat} {pv : Nat → Nat} {v m : HH} (hR : Rel n own blk ep ft sc lk gr mp un q wt wx lg us pv (v) (m)) (x : Int32) : Rel n own blk ep ft (u2 sc 11 1 x) lk gr mp un q wt wx lg us pv (u2 v 11 11 x) (u2 m 43 1 x) := by
  obtain ⟨hL, hT, hX, hS0, hM0, hD0, hR0, hA0, hW0, hG0, hU0, hE0, hS1, hM1, hD1, hR1, hA1, hW1, hG1, hU1, hE1⟩ := hR
  obtain ⟨a0, a1, a2, a3, a4, a5, a6, a7, a8, a9, a10, a11, a12, a13, a14, a15, a16⟩ := hS1
  exact ⟨hL, hT, hX, hS0, hM0, hD0, hR0, hA0, hW0, hG0, hU0, hE0, ⟨a0, a1, a2, a3, a4, a5, rfl, a7, a8, a9, a10, a11, a12, a13, rfl, a15, a16⟩, hM1, hD1, hR1, hA1, hW1, hG1, hU1, hE1⟩
theorem r_set_12_1 {n : Nat} {own blk ep ft : Nat → Nat} {sc : HH} {lk gr : Int32} {mp un : Nat → Nat → Bool} {q : Nat → List MSG} {wt : Nat → List Nat} {wx : Nat → Bool} {lg : Nat → List Nat} {us : Nat → Nat → Nat} {pv : Nat → Nat} {v m : HH} (hR : Rel n own blk ep ft sc lk gr mp un q wt wx lg us pv (v) (m)) (x : Int32) : Rel n own blk ep ft (u2 sc 12 1 x) lk gr mp un q wt wx lg us pv (u2 v 11 12 x) (u2 m 44 1 x) := by
  obtain ⟨hL, hT, hX, hS0, hM0, hD0, hR0, hA0, hW0, hG0, hU0, hE0, hS1, hM1, hD1, hR1, hA1, hW1, hG1, hU1, hE1⟩ := hR
  obtain ⟨a0, a1, a2, a3, a4, a5, a6, a7, a8, a9, a10, a11, a12, a13, a14, a15, a16⟩ := hS1
  exact ⟨hL, hT, hX, hS0, hM0, hD0, hR0, hA0, hW0, hG0, hU0, hE0, ⟨a0, a1, a2, a3, a4, a5, a6, rfl, a8, a9, a10, a11, a12, a13, a14, rfl, a16⟩, hM1, hD1, hR1, hA1, hW1, hG1, hU1, hE1⟩
theorem r_set_13_1 {n : Nat} {own blk ep ft : Nat → Nat} {sc : HH} {lk gr : Int32} {mp un : Nat → Nat → Bool} {q : Nat → List MSG} {wt : Nat → List Nat} {wx : Nat → Bool} {lg : Nat → List Nat} {us : Nat → Nat → Nat} {pv : Nat → Nat} {v m : HH} (hR : Rel n own blk ep ft sc lk gr mp un q wt wx lg us pv (v) (m)) (x : Int32) : Rel n own blk ep ft (u2 sc 13 1 x) lk gr mp un q wt wx lg us pv (u2 v 11 13 x) (u2 m 45 1 x) := by
  obtain ⟨hL, hT, hX, hS0, hM0, hD0, hR0, hA0, hW0, hG0, hU0, hE0, hS1, hM1, hD1, hR1, hA1, hW1, hG1, hU1, hE1⟩ := hR
  obtain ⟨a0, a1, a2, a3, a4, a5, a6, a7, a8, a9, a10, a11, a12, a13, a14, a15, a16⟩ := hS1
  exact ⟨hL, hT, hX, hS0, hM0, hD0, hR0, hA0, hW0, hG0, hU0, hE0, ⟨a0, a1, a2, a3, a4, a5, a6, a7, rfl, a9, a10, a11, a12, a13, a14, a15, rfl⟩, hM1, hD1, hR1, hA1, hW1, hG1, hU1, hE1⟩
theorem r_lk {n : Nat} {own blk ep ft : Nat → Nat} {sc : HH} {lk gr : Int32} {mp un : Nat → Nat → Bool} {q : Nat → List MSG} {wt : Nat → List Nat} {wx : Nat → Bool} {lg : Nat → List Nat} {us : Nat → Nat → Nat} {pv : Nat → Nat} {v m : HH} (hR : Rel n own blk ep ft sc lk gr mp un q wt wx lg us pv (v) (m)) (x : Int32) : Rel n own blk ep ft sc (x) gr mp un q wt wx lg us pv (u2 v 0 3 x) (u2 m 27 23 x) := by
  obtain ⟨hL, hT, hX, hS0, hM0, hD0, hR0, hA0, hW0, hG0, hU0, hE0, hS1, hM1, hD1, hR1, hA1, hW1, hG1, hU1, hE1⟩ := hR
  obtain ⟨a1, a2, a3, a4⟩ := hL
  exact ⟨⟨rfl, a2, rfl, a4⟩, hT, hX, hS0, hM0, hD0, hR0, hA0, hW0, hG0, hU0, hE0, hS1, hM1, hD1, hR1, hA1, hW1, hG1, hU1, hE1⟩
theorem r_gr {n : Nat} {own blk ep ft : Nat → Nat} {sc : HH} {lk gr : Int32} {mp un : Nat → Nat → Bool} {q : Nat → List MSG} {wt : Nat → List Nat} {wx : Nat → Bool} {lg : Nat → List Nat} {us : Nat → Nat → Nat} {pv : Nat → Nat} {v m : HH} (hR : Rel n own blk ep ft sc lk gr mp un q wt wx lg us pv (v) (m)) (x : Int32) : Rel n own blk ep ft sc lk (x) mp un q wt wx lg us pv (u2 v 0 4 x) (u2 m 27 14 x) := by
  obtain ⟨hL, hT, hX, hS0, hM0, hD0, hR0, hA0, hW0, hG0, hU0, hE0, hS1, hM1, hD1, hR1, hA1, hW1, hG1, hU1, hE1⟩ := hR
  obtain ⟨a1, a2, a3, a4⟩ := hL
  exact ⟨⟨a1, rfl, a3, rfl⟩, hT, hX, hS0, hM0, hD0, hR0, hA0, hW0, hG0, hU0, hE0, hS1, hM1, hD1, hR1, hA1, hW1, hG1, hU1, hE1⟩
theorem r_ft {n : Nat} {own blk ep ft : Nat → Nat} {sc : HH} {lk gr : Int32} {mp un : Nat → Nat → Bool} {q : Nat → List MSG} {wt : Nat → List Nat} {wx : Nat → Bool} {lg : Nat → List Nat} {us : Nat → Nat → Nat} {pv : Nat → Nat} {v m : HH} (hR : Rel n own blk ep ft sc lk gr mp un q wt wx lg us pv (v) (m)) {w : Nat} (h1 : 1 ≤ w) (h2 : w ≤ n) {x : Int32} (y : Nat) (hx : x = nI y) : Rel n own blk ep (ug ft w y) sc lk gr mp un q wt wx lg us pv (u2 v 26 w x) (u2 m 32 w x) := by
  obtain ⟨hL, hT, hX, hS0, hM0, hD0, hR0, hA0, hW0, hG0, hU0, hE0, hS1, hM1, hD1, hR1, hA1, hW1, hG1, hU1, hE1⟩ := hR
  obtain ⟨a1, a2, a3, a4, a5⟩ := hT
  refine ⟨hL, ⟨a1, a2, a3, a4, ?_⟩, hX, hS0, hM0, hD0, hR0, hA0, hW0, hG0, hU0, hE0, hS1, hM1, hD1, hR1, hA1, hW1, hG1, hU1, hE1⟩
  intro w' g1 g2
  obtain ⟨⟨e1, e2, e3, e4, e5⟩, f1, f2, f3, f4⟩ := a5 w' g1 g2
  by_cases hw : w' = w
  · subst hw
    have e : ug ft w' y w' = y := if_pos rfl
    refine ⟨⟨e1, e2, e3, e4, ?_⟩, f1, f2, f3, ?_⟩
    · rw [e, u2_s]; exact hx
    · rw [e, u2_s]; exact hx
  · have e : ug ft w y w' = ft w' := if_neg hw
    refine ⟨⟨e1, e2, e3, e4, ?_⟩, f1, f2, f3, ?_⟩
    · rw [e, u2_k v x 26 hw]; exact e5
    · rw [e, u2_k m x 32 hw]; exact f4
def cft (own ft : Nat → Nat) (b a y n : Nat) : Nat → Nat := fun w => if (1 ≤ w ∧ w ≤ n) ∧ own w = b ∧ ft w = a then y else ft w
theorem r_chft {n : Nat} {own blk ep ft : Nat → Nat} {sc : HH} {lk gr : Int32} {mp un : Nat → Nat → Bool} {q : Nat → List MSG} {wt : Nat → List Nat} {wx : Nat → Bool} {lg : Nat → List Nat} {us : Nat → Nat → Nat} {pv : Nat → Nat} {v m : HH} (fz : Nat) (hz : 400 ≤ fz) (hn : n ≤ 300) (ho : ∀ w, 1 ≤ w → w ≤ n → own w < 2 ∧ ft w < 5) (hR : Rel n own blk ep ft sc lk gr mp un q wt wx lg us pv (v) (m)) {b a y : Nat} (hb : b < 2) (ha : a < 5) {xb xb2 xa xy : Int32} (eb : xb = nI b) (eb2 : xb2 = nI b) (ea : xa = nI a) (ey : xy = nI y) : P_T_changeFates fz xb xa xy v ∧ P_M_turnInto fz xb2 xa xy m ∧ Rel n own blk ep (cft own ft b a y n) sc lk gr mp un q wt wx lg us pv (B_T_changeFates fz xb xa xy v) (B_M_turnInto fz xb2 xa xy m) := by
  subst eb
  subst eb2
  subst ea
  subst ey
  obtain ⟨hL, hT, hX, hS0, hM0, hD0, hR0, hA0, hW0, hG0, hU0, hE0, hS1, hM1, hD1, hR1, hA1, hW1, hG1, hU1, hE1⟩ := hR
  obtain ⟨a1, a2, a3, a4, a5⟩ := hT
  have c1 := cv_changeFates fz hz (nI b) (nI a) (nI y) hn v a1
  have c2 := cv_turnInto fz hz (nI b) (nI a) (nI y) hn m a2
  refine ⟨c1.1, c2.1, ?_⟩
  rw [c1.2, c2.2]
  refine ⟨hL, ⟨a1, a2, a3, a4, ?_⟩, hX, hS0, hM0, hD0, hR0, hA0, hW0, hG0, hU0, hE0, hS1, hM1, hD1, hR1, hA1, hW1, hG1, hU1, hE1⟩
  intro w g1 g2
  obtain ⟨⟨e1, e2, e3, e4, e5⟩, f1, f2, f3, f4⟩ := a5 w g1 g2
  obtain ⟨o1, o2⟩ := ho w g1 g2
  have k1 : nI (own w) = nI b ↔ own w = b := nI_eq (by omega) (by omega)
  have k2 : nI (ft w) = nI a ↔ ft w = a := nI_eq (by omega) (by omega)
  refine ⟨⟨e1, e2, e3, e4, ?_⟩, f1, f2, f3, ?_⟩
  · unfold chF cft
    by_cases hc : own w = b ∧ ft w = a
    · rw [if_pos ⟨rfl, ⟨g1, g2⟩, by rw [e1]; exact k1.mpr hc.1, by rw [e5]; exact k2.mpr hc.2⟩, if_pos ⟨⟨g1, g2⟩, hc⟩]
    · rw [if_neg (fun r => hc ⟨k1.mp (e1.symm.trans r.2.2.1), k2.mp (e5.symm.trans r.2.2.2)⟩), if_neg (fun r => hc r.2)]
      exact e5
  · unfold chF cft
    by_cases hc : own w = b ∧ ft w = a
    · rw [if_pos ⟨rfl, ⟨g1, g2⟩, by rw [f1]; exact k1.mpr hc.1, by rw [f4]; exact k2.mpr hc.2⟩, if_pos ⟨⟨g1, g2⟩, hc⟩]
    · rw [if_neg (fun r => hc ⟨k1.mp (f1.symm.trans r.2.2.1), k2.mp (f4.symm.trans r.2.2.2)⟩), if_neg (fun r => hc r.2)]
      exact f4
theorem r_mapclr_0 {n : Nat} {own blk ep ft : Nat → Nat} {sc : HH} {lk gr : Int32} {mp un : Nat → Nat → Bool} {q : Nat → List MSG} {wt : Nat → List Nat} {wx : Nat → Bool} {lg : Nat → List Nat} {us : Nat → Nat → Nat} {pv : Nat → Nat} {v m : HH} (hR : Rel n own blk ep ft sc lk gr mp un q wt wx lg us pv (v) (m)) {j : Nat} (hj : j < 32) : Rel n own blk ep ft sc lk gr (ug mp 0 (fun k => mp 0 k && !decide (k = j))) un q wt wx lg us pv (u2 v 1 5 (v 1 5 &&& (((1 : Int32) <<< (nI j &&& 31)) ^^^ (-1 : Int32)))) (u2 m 35 (32 * 0 + j) 0) := by
  obtain ⟨hL, hT, hX, hS0, hM0, hD0, hR0, hA0, hW0, hG0, hU0, hE0, hS1, hM1, hD1, hR1, hA1, hW1, hG1, hU1, hE1⟩ := hR
  refine ⟨hL, hT, hX, hS0, ?_, hD0, hR0, hA0, hW0, hG0, hU0, hE0, hS1, ?_, hD1, hR1, hA1, hW1, hG1, hU1, hE1⟩
  · intro k hk
    have g := hM0 k hk
    refine ⟨(bt_clr (v 1 5) hj hk).trans (by rw [g.1]; rfl), ?_⟩
    by_cases e : k = j
    · subst e
      rw [u2_s]
      have e2 : ug mp 0 (fun k' => mp 0 k' && !decide (k' = k)) 0 k = false := by simp [ug]
      rw [e2]
      rfl
    · rw [u2_k m 0 35 (show 32 * 0 + k ≠ 32 * 0 + j by omega), g.2]
      have e2 : ug mp 0 (fun k => mp 0 k && !decide (k = j)) 0 k = mp 0 k := by simp [ug, e]
      rw [e2]
  · intro k hk
    have g := hM1 k hk
    refine ⟨g.1, ?_⟩
    rw [u2_k m 0 35 (show 32 * 1 + k ≠ 32 * 0 + j by omega)]
    exact g.2
theorem r_mapset_0 {n : Nat} {own blk ep ft : Nat → Nat} {sc : HH} {lk gr : Int32} {mp un : Nat → Nat → Bool} {q : Nat → List MSG} {wt : Nat → List Nat} {wx : Nat → Bool} {lg : Nat → List Nat} {us : Nat → Nat → Nat} {pv : Nat → Nat} {v m : HH} (hR : Rel n own blk ep ft sc lk gr mp un q wt wx lg us pv (v) (m)) {j : Nat} (hj : j < 32) : Rel n own blk ep ft sc lk gr (ug mp 0 (fun k => mp 0 k || decide (k = j))) un q wt wx lg us pv (u2 v 1 5 (v 1 5 ||| ((1 : Int32) <<< (nI j &&& 31)))) (u2 m 35 (32 * 0 + j) 1) := by
  obtain ⟨hL, hT, hX, hS0, hM0, hD0, hR0, hA0, hW0, hG0, hU0, hE0, hS1, hM1, hD1, hR1, hA1, hW1, hG1, hU1, hE1⟩ := hR
  refine ⟨hL, hT, hX, hS0, ?_, hD0, hR0, hA0, hW0, hG0, hU0, hE0, hS1, ?_, hD1, hR1, hA1, hW1, hG1, hU1, hE1⟩
  · intro k hk
    have g := hM0 k hk
    refine ⟨(bt_set (v 1 5) hj hk).trans (by rw [g.1]; rfl), ?_⟩
    by_cases e : k = j
    · subst e
      rw [u2_s]
      have e2 : ug mp 0 (fun k' => mp 0 k' || decide (k' = k)) 0 k = true := by simp [ug]
      rw [e2]
      rfl
    · rw [u2_k m 1 35 (show 32 * 0 + k ≠ 32 * 0 + j by omega), g.2]
      have e2 : ug mp 0 (fun k => mp 0 k || decide (k = j)) 0 k = mp 0 k := by simp [ug, e]
      rw [e2]
  · intro k hk
    have g := hM1 k hk
    refine ⟨g.1, ?_⟩
    rw [u2_k m 1 35 (show 32 * 1 + k ≠ 32 * 0 + j by omega)]
    exact g.2
theorem r_mapall_0 {n : Nat} {own blk ep ft : Nat → Nat} {sc : HH} {lk gr : Int32} {mp un : Nat → Nat → Bool} {q : Nat → List MSG} {wt : Nat → List Nat} {wx : Nat → Bool} {lg : Nat → List Nat} {us : Nat → Nat → Nat} {pv : Nat → Nat} {v m : HH} (hR : Rel n own blk ep ft sc lk gr mp un q wt wx lg us pv (v) (m)) {X : Int32} {f : Nat → Int32} (hf : ∀ j, j < 32 → f (32 * 0 + j) = bi (bt X j)) : Rel n own blk ep ft sc lk gr (ug mp 0 (bt X)) un q wt wx lg us pv (u2 v 1 5 X) (rs 35 (32 * 0 + 0) (32 * 0 + 32) f m) := by
  obtain ⟨hL, hT, hX, hS0, hM0, hD0, hR0, hA0, hW0, hG0, hU0, hE0, hS1, hM1, hD1, hR1, hA1, hW1, hG1, hU1, hE1⟩ := hR
  refine ⟨hL, hT, hX, hS0, ?_, hD0, hR0, hA0, hW0, hG0, hU0, hE0, hS1, ?_, hD1, hR1, hA1, hW1, hG1, hU1, hE1⟩
  · intro k hk
    refine ⟨rfl, ?_⟩
    have e : rs 35 (32 * 0 + 0) (32 * 0 + 32) f m 35 (32 * 0 + k) = f (32 * 0 + k) := if_pos ⟨rfl, by omega, by omega⟩
    rw [e]
    exact hf k hk
  · intro k hk
    have g := hM1 k hk
    have e : rs 35 (32 * 0 + 0) (32 * 0 + 32) f m 35 (32 * 1 + k) = m 35 (32 * 1 + k) := if_neg (fun r => by omega)
    refine ⟨g.1, ?_⟩
    rw [e]
    exact g.2
theorem r_disk_0 {n : Nat} {own blk ep ft : Nat → Nat} {sc : HH} {lk gr : Int32} {mp un : Nat → Nat → Bool} {q : Nat → List MSG} {wt : Nat → List Nat} {wx : Nat → Bool} {lg : Nat → List Nat} {us : Nat → Nat → Nat} {pv : Nat → Nat} {v m : HH} (hR : Rel n own blk ep ft sc lk gr mp un q wt wx lg us pv (v) (m)) {j : Nat} (hj : j < 32) (x : Int32) : Rel n own blk ep ft sc lk gr mp un q wt wx lg us pv (u2 v 2 j x) (u2 m 34 (32 * 0 + j) x) := by
  obtain ⟨hL, hT, hX, hS0, hM0, hD0, hR0, hA0, hW0, hG0, hU0, hE0, hS1, hM1, hD1, hR1, hA1, hW1, hG1, hU1, hE1⟩ := hR
  refine ⟨hL, hT, hX, hS0, hM0, ?_, hR0, hA0, hW0, hG0, hU0, hE0, hS1, hM1, ?_, hR1, hA1, hW1, hG1, hU1, hE1⟩
  · intro k hk
    by_cases e : k = j
    · subst e
      rw [u2_s, u2_s]
    · rw [u2_k v x 2 e, u2_k m x 34 (show 32 * 0 + k ≠ 32 * 0 + j by omega)]
      exact hD0 k hk
  · intro k hk
    rw [u2_k m x 34 (show 32 * 1 + k ≠ 32 * 0 + j by omega)]
    exact hD1 k hk
theorem r_un_0 {n : Nat} {own blk ep ft : Nat → Nat} {sc : HH} {lk gr : Int32} {mp un : Nat → Nat → Bool} {q : Nat → List MSG} {wt : Nat → List Nat} {wx : Nat → Bool} {lg : Nat → List Nat} {us : Nat → Nat → Nat} {pv : Nat → Nat} {v m : HH} (hR : Rel n own blk ep ft sc lk gr mp un q wt wx lg us pv (v) (m)) (X : Int32) : Rel n own blk ep ft sc lk gr mp (ug un 0 (bt X)) q wt wx lg us pv (u2 v 1 14 X) (m) := by
  obtain ⟨hL, hT, hX, hS0, hM0, hD0, hR0, hA0, hW0, hG0, hU0, hE0, hS1, hM1, hD1, hR1, hA1, hW1, hG1, hU1, hE1⟩ := hR
  exact ⟨hL, hT, hX, hS0, hM0, hD0, hR0, hA0, hW0, hG0, fun j hj => rfl, hE0, hS1, hM1, hD1, hR1, hA1, hW1, hG1, hU1, hE1⟩
theorem r_bar_0 {n : Nat} {own blk ep ft : Nat → Nat} {sc : HH} {lk gr : Int32} {mp un : Nat → Nat → Bool} {q : Nat → List MSG} {wt : Nat → List Nat} {wx : Nat → Bool} {lg : Nat → List Nat} {us : Nat → Nat → Nat} {pv : Nat → Nat} {v m : HH} (hR : Rel n own blk ep ft sc lk gr mp un q wt wx lg us pv (v) (m)) : Rel n own blk ep ft sc lk gr mp un q wt wx lg us pv (u2 v 1 16 1) (u2 m 46 0 1) := by
  obtain ⟨hL, hT, hX, hS0, hM0, hD0, hR0, hA0, hW0, hG0, hU0, hE0, hS1, hM1, hD1, hR1, hA1, hW1, hG1, hU1, hE1⟩ := hR
  obtain ⟨a1, a2, a3, a4⟩ := hE0
  have e10 : ¬ (1 : Int32) = 0 := by decide
  refine ⟨hL, hT, hX, hS0, hM0, hD0, hR0, hA0, hW0, hG0, hU0, ⟨a1, a2, a3, ?_⟩, hS1, hM1, hD1, hR1, hA1, hW1, hG1, hU1, hE1⟩
  exact ⟨fun r => absurd r e10, fun r => absurd r.2 e10⟩
theorem r_mapclr_1 {n : Nat} {own blk ep ft : Nat → Nat} {sc : HH} {lk gr : Int32} {mp un : Nat → Nat → Bool} {q : Nat → List MSG} {wt : Nat → List Nat} {wx : Nat → Bool} {lg : Nat → List Nat} {us : Nat → Nat → Nat} {pv : Nat → Nat} {v m : HH} (hR : Rel n own blk ep ft sc lk gr mp un q wt wx lg us pv (v) (m)) {j : Nat} (hj : j < 32) : Rel n own blk ep ft sc lk gr (ug mp 1 (fun k => mp 1 k && !decide (k = j))) un q wt wx lg us pv (u2 v 11 5 (v 11 5 &&& (((1 : Int32) <<< (nI j &&& 31)) ^^^ (-1 : Int32)))) (u2 m 35 (32 * 1 + j) 0) := by
  obtain ⟨hL, hT, hX, hS0, hM0, hD0, hR0, hA0, hW0, hG0, hU0, hE0, hS1, hM1, hD1, hR1, hA1, hW1, hG1, hU1, hE1⟩ := hR
  refine ⟨hL, hT, hX, hS0, ?_, hD0, hR0, hA0, hW0, hG0, hU0, hE0, hS1, ?_, hD1, hR1, hA1, hW1, hG1, hU1, hE1⟩
  · intro k hk
    have g := hM0 k hk
    refine ⟨g.1, ?_⟩
    rw [u2_k m 0 35 (show 32 * 0 + k ≠ 32 * 1 + j by omega)]
    exact g.2
  · intro k hk
    have g := hM1 k hk
    refine ⟨(bt_clr (v 11 5) hj hk).trans (by rw [g.1]; rfl), ?_⟩
    by_cases e : k = j
    · subst e
      rw [u2_s]
      have e2 : ug mp 1 (fun k' => mp 1 k' && !decide (k' = k)) 1 k = false := by simp [ug]
      rw [e2]
      rfl
    · rw [u2_k m 0 35 (show 32 * 1 + k ≠ 32 * 1 + j by omega), g.2]
      have e2 : ug mp 1 (fun k => mp 1 k && !decide (k = j)) 1 k = mp 1 k := by simp [ug, e]
      rw [e2]
theorem r_mapset_1 {n : Nat} {own blk ep ft : Nat → Nat} {sc : HH} {lk gr : Int32} {mp un : Nat → Nat → Bool} {q : Nat → List MSG} {wt : Nat → List Nat} {wx : Nat → Bool} {lg : Nat → List Nat} {us : Nat → Nat → Nat} {pv : Nat → Nat} {v m : HH} (hR : Rel n own blk ep ft sc lk gr mp un q wt wx lg us pv (v) (m)) {j : Nat} (hj : j < 32) : Rel n own blk ep ft sc lk gr (ug mp 1 (fun k => mp 1 k || decide (k = j))) un q wt wx lg us pv (u2 v 11 5 (v 11 5 ||| ((1 : Int32) <<< (nI j &&& 31)))) (u2 m 35 (32 * 1 + j) 1) := by
  obtain ⟨hL, hT, hX, hS0, hM0, hD0, hR0, hA0, hW0, hG0, hU0, hE0, hS1, hM1, hD1, hR1, hA1, hW1, hG1, hU1, hE1⟩ := hR
  refine ⟨hL, hT, hX, hS0, ?_, hD0, hR0, hA0, hW0, hG0, hU0, hE0, hS1, ?_, hD1, hR1, hA1, hW1, hG1, hU1, hE1⟩
  · intro k hk
    have g := hM0 k hk
    refine ⟨g.1, ?_⟩
    rw [u2_k m 1 35 (show 32 * 0 + k ≠ 32 * 1 + j by omega)]
    exact g.2
  · intro k hk
    have g := hM1 k hk
    refine ⟨(bt_set (v 11 5) hj hk).trans (by rw [g.1]; rfl), ?_⟩
    by_cases e : k = j
    · subst e
      rw [u2_s]
      have e2 : ug mp 1 (fun k' => mp 1 k' || decide (k' = k)) 1 k = true := by simp [ug]
      rw [e2]
      rfl
    · rw [u2_k m 1 35 (show 32 * 1 + k ≠ 32 * 1 + j by omega), g.2]
      have e2 : ug mp 1 (fun k => mp 1 k || decide (k = j)) 1 k = mp 1 k := by simp [ug, e]
      rw [e2]
theorem r_mapall_1 {n : Nat} {own blk ep ft : Nat → Nat} {sc : HH} {lk gr : Int32} {mp un : Nat → Nat → Bool} {q : Nat → List MSG} {wt : Nat → List Nat} {wx : Nat → Bool} {lg : Nat → List Nat} {us : Nat → Nat → Nat} {pv : Nat → Nat} {v m : HH} (hR : Rel n own blk ep ft sc lk gr mp un q wt wx lg us pv (v) (m)) {X : Int32} {f : Nat → Int32} (hf : ∀ j, j < 32 → f (32 * 1 + j) = bi (bt X j)) : Rel n own blk ep ft sc lk gr (ug mp 1 (bt X)) un q wt wx lg us pv (u2 v 11 5 X) (rs 35 (32 * 1 + 0) (32 * 1 + 32) f m) := by
  obtain ⟨hL, hT, hX, hS0, hM0, hD0, hR0, hA0, hW0, hG0, hU0, hE0, hS1, hM1, hD1, hR1, hA1, hW1, hG1, hU1, hE1⟩ := hR
  refine ⟨hL, hT, hX, hS0, ?_, hD0, hR0, hA0, hW0, hG0, hU0, hE0, hS1, ?_, hD1, hR1, hA1, hW1, hG1, hU1, hE1⟩
  · intro k hk
    have g := hM0 k hk
    have e : rs 35 (32 * 1 + 0) (32 * 1 + 32) f m 35 (32 * 0 + k) = m 35 (32 * 0 + k) := if_neg (fun r => by omega)
    refine ⟨g.1, ?_⟩
    rw [e]
    exact g.2
  · intro k hk
    refine ⟨rfl, ?_⟩
    have e : rs 35 (32 * 1 + 0) (32 * 1 + 32) f m 35 (32 * 1 + k) = f (32 * 1 + k) := if_pos ⟨rfl, by omega, by omega⟩
    rw [e]
    exact hf k hk
theorem r_disk_1 {n : Nat} {own blk ep ft : Nat → Nat} {sc : HH} {lk gr : Int32} {mp un : Nat → Nat → Bool} {q : Nat → List MSG} {wt : Nat → List Nat} {wx : Nat → Bool} {lg : Nat → List Nat} {us : Nat → Nat → Nat} {pv : Nat → Nat} {v m : HH} (hR : Rel n own blk ep ft sc lk gr mp un q wt wx lg us pv (v) (m)) {j : Nat} (hj : j < 32) (x : Int32) : Rel n own blk ep ft sc lk gr mp un q wt wx lg us pv (u2 v 12 j x) (u2 m 34 (32 * 1 + j) x) := by
  obtain ⟨hL, hT, hX, hS0, hM0, hD0, hR0, hA0, hW0, hG0, hU0, hE0, hS1, hM1, hD1, hR1, hA1, hW1, hG1, hU1, hE1⟩ := hR
  refine ⟨hL, hT, hX, hS0, hM0, ?_, hR0, hA0, hW0, hG0, hU0, hE0, hS1, hM1, ?_, hR1, hA1, hW1, hG1, hU1, hE1⟩
  · intro k hk
    rw [u2_k m x 34 (show 32 * 0 + k ≠ 32 * 1 + j by omega)]
    exact hD0 k hk
  · intro k hk
    by_cases e : k = j
    · subst e
      rw [u2_s, u2_s]
    · rw [u2_k v x 12 e, u2_k m x 34 (show 32 * 1 + k ≠ 32 * 1 + j by omega)]
      exact hD1 k hk
theorem r_un_1 {n : Nat} {own blk ep ft : Nat → Nat} {sc : HH} {lk gr : Int32} {mp un : Nat → Nat → Bool} {q : Nat → List MSG} {wt : Nat → List Nat} {wx : Nat → Bool} {lg : Nat → List Nat} {us : Nat → Nat → Nat} {pv : Nat → Nat} {v m : HH} (hR : Rel n own blk ep ft sc lk gr mp un q wt wx lg us pv (v) (m)) (X : Int32) : Rel n own blk ep ft sc lk gr mp (ug un 1 (bt X)) q wt wx lg us pv (u2 v 11 14 X) (m) := by
  obtain ⟨hL, hT, hX, hS0, hM0, hD0, hR0, hA0, hW0, hG0, hU0, hE0, hS1, hM1, hD1, hR1, hA1, hW1, hG1, hU1, hE1⟩ := hR
  exact ⟨hL, hT, hX, hS0, hM0, hD0, hR0, hA0, hW0, hG0, hU0, hE0, hS1, hM1, hD1, hR1, hA1, hW1, hG1, fun j hj => rfl, hE1⟩
theorem r_bar_1 {n : Nat} {own blk ep ft : Nat → Nat} {sc : HH} {lk gr : Int32} {mp un : Nat → Nat → Bool} {q : Nat → List MSG} {wt : Nat → List Nat} {wx : Nat → Bool} {lg : Nat → List Nat} {us : Nat → Nat → Nat} {pv : Nat → Nat} {v m : HH} (hR : Rel n own blk ep ft sc lk gr mp un q wt wx lg us pv (v) (m)) : Rel n own blk ep ft sc lk gr mp un q wt wx lg us pv (u2 v 11 16 1) (u2 m 46 1 1) := by
  obtain ⟨hL, hT, hX, hS0, hM0, hD0, hR0, hA0, hW0, hG0, hU0, hE0, hS1, hM1, hD1, hR1, hA1, hW1, hG1, hU1, hE1⟩ := hR
  obtain ⟨a1, a2, a3, a4⟩ := hE1
  have e10 : ¬ (1 : Int32) = 0 := by decide
  refine ⟨hL, hT, hX, hS0, hM0, hD0, hR0, hA0, hW0, hG0, hU0, hE0, hS1, hM1, hD1, hR1, hA1, hW1, hG1, hU1, ⟨a1, a2, a3, ?_⟩⟩
  exact ⟨fun r => absurd r e10, fun r => absurd r.2 e10⟩
