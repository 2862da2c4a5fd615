def IW (n : Nat) (own : Nat → Nat) (w0 w1 : List Nat) (wx : Nat → Bool) : Prop := ∀ w, 1 ≤ w → w ≤ 300 → (wx w = true ↔ (w ≤ n ∧ ((own w = 1 ∧ w ∈ w0) ∨ (own w = 0 ∧ w ∈ w1))))
def IC (a60 a61 a80 a81 a90 a91 s0 s1 : Int32) : Prop := (a60 = 0 → a80 ≠ 0) ∧ (a61 = 0 → a81 ≠ 0) ∧ ¬ (a80 ≠ 0 ∧ a81 ≠ 0) ∧ (s0 ≠ 0 → a80 = 0) ∧ (s1 ≠ 0 → a81 = 0) ∧ ¬ (s0 ≠ 0 ∧ s1 ≠ 0) ∧ (a90 = 0 ∨ a90 = 1) ∧ (a91 = 0 ∨ a91 = 1)
def IK (lk : Int32) (q0 q1 : List MSG) (w0 w1 : List Nat) (s0 s1 : Int32) : Prop := lk = 0 → q0 = [] ∧ q1 = [] ∧ w0 = [] ∧ w1 = [] ∧ s0 = 0 ∧ s1 = 0
def IE (n : Nat) (own ep pv : Nat → Nat) : Prop := (∀ w w', 1 ≤ w → w < w' → w' ≤ n → own w = own w' → ep w ≤ ep w') ∧ (∀ w, 1 ≤ w → w ≤ n → w ≤ pv (own w)) ∧ ∀ b, b < 2 → pv b = 0 ∨ (1 ≤ pv b ∧ pv b ≤ n ∧ own (pv b) = b)
def IT (n : Nat) (own blk ep ft : Nat → Nat) : Prop := n ≤ 300 ∧ ∀ w, 1 ≤ w → w ≤ n → own w < 2 ∧ blk w < 32 ∧ ep w ≤ w ∧ ft w < 5
def Inv (t : Nat) (n : Nat) (own blk ep ft : Nat → Nat) (sc : HH) (lk gr : Int32) (mp un : Nat → Nat → Bool) (q : Nat → List MSG) (wt : Nat → List Nat) (wx : Nat → Bool) (pv : Nat → Nat) : Prop :=
  IT n own blk ep ft ∧ (∃ g, gr = nI g ∧ 1 ≤ g ∧ g ≤ 1 + 301 * t) ∧
  IN n own blk ft 0 (sc 12 0) (mp 0) (un 0) (PL (q 1) (wt 1) (q 0)) ∧
  IN n own blk ft 1 (sc 12 1) (mp 1) (un 1) (PL (q 0) (wt 0) (q 1)) ∧
  IQ (q 0) (sc 12 0) (sc 12 1) ∧ IQ (q 1) (sc 12 0) (sc 12 1) ∧ IR (wt 1) (q 0) ∧ IR (wt 0) (q 1) ∧
  IW n own (wt 0) (wt 1) wx ∧ IC (sc 6 0) (sc 6 1) (sc 8 0) (sc 8 1) (sc 9 0) (sc 9 1) (sc 12 0) (sc 12 1) ∧
  IK lk (q 0) (q 1) (wt 0) (wt 1) (sc 12 0) (sc 12 1) ∧ IE n own ep pv
def J2 (t : Nat) (v m : HH) : Prop := ∃ (n : Nat) (own blk ep ft : Nat → Nat) (sc : HH) (lk gr : Int32) (mp un : Nat → Nat → Bool) (q : Nat → List MSG) (wt : Nat → List Nat) (wx : Nat → Bool) (lg : Nat → List Nat) (us : Nat → Nat → Nat) (pv : Nat → Nat), Rel n own blk ep ft sc lk gr mp un q wt wx lg us pv v m ∧ Inv t n own blk ep ft sc lk gr mp un q wt wx pv
def RS (t : Nat) (rv rm : Int32 × HH) : Prop := rv.1 = rm.1 ∧ J2 (t + 1) rv.2 rm.2
theorem J2.mono {t t' : Nat} {v m : HH} (h : J2 t v m) (ht : t ≤ t') : J2 t' v m := by
  obtain ⟨n, own, blk, ep, ft, sc, lk, gr, mp, un, q, wt, wx, lg, us, pv, hR, h1, ⟨g, g1, g2, g3⟩, h3⟩ := h
  exact ⟨n, own, blk, ep, ft, sc, lk, gr, mp, un, q, wt, wx, lg, us, pv, hR, h1, ⟨g, g1, g2, by omega⟩, h3⟩
theorem RS.same {t : Nat} {v m : HH} (h : J2 t v m) (x : Int32) : RS t (x, v) (x, m) := ⟨rfl, h.mono (by omega)⟩
theorem ndc (x : Int32) : (x ≠ 0 ∧ x ≠ 1) ∨ x = nI 0 ∨ x = nI 1 := by
  by_cases h0 : x = 0
  · exact Or.inr (Or.inl (h0.trans li0))
  · by_cases h1 : x = 1
    · exact Or.inr (Or.inr (h1.trans li1))
    · exact Or.inl ⟨h0, h1⟩
theorem one0 : ¬ (1 : Int32) = 0 := by decide
theorem vN_0 (fz : Nat) (h : HH) : B_V_isNode fz (nI 0) h = 1 := by rw [B_V_isNode, if_pos nI_0]
theorem vN_1 (fz : Nat) (h : HH) : B_V_isNode fz (nI 1) h = 1 := by rw [B_V_isNode, if_neg nI1_0, if_pos (by decide +kernel)]
theorem mN_0 (fz : Nat) (h : HH) : B_M_isNode fz (nI 0) h = 1 := by rw [B_M_isNode, if_pos nI_0]
theorem mN_1 (fz : Nat) (h : HH) : B_M_isNode fz (nI 1) h = 1 := by rw [B_M_isNode, if_neg nI1_0, if_pos (by decide +kernel)]
theorem vN_n (fz : Nat) (h : HH) {x : Int32} (h0 : x ≠ 0) (h1 : x ≠ 1) : B_V_isNode fz x h = 0 := by rw [B_V_isNode, if_neg h0, if_neg h1]
theorem mN_n (fz : Nat) (h : HH) {x : Int32} (h0 : x ≠ 0) (h1 : x ≠ 1) : B_M_isNode fz x h = 0 := by rw [B_M_isNode, if_neg h0, if_neg h1]
theorem pO_0 (fz : Nat) (h : HH) : B_V_peerOf fz (nI 0) h = 11 := by rw [B_V_peerOf, if_pos nI_0]
theorem pO_1 (fz : Nat) (h : HH) : B_V_peerOf fz (nI 1) h = 1 := by rw [B_V_peerOf, if_neg nI1_0]
theorem pT_isNode (fz : Nat) (x : Int32) (h : HH) : P_V_isNode fz x h := by simp [P_V_isNode]
theorem pT_isNodeM (fz : Nat) (x : Int32) (h : HH) : P_M_isNode fz x h := by simp [P_M_isNode]
theorem pT_nodeOf (fz : Nat) (x : Int32) (h : HH) : P_V_nodeOf fz x h := by simp [P_V_nodeOf]
theorem pT_peerOf (fz : Nat) (x : Int32) (h : HH) : P_V_peerOf fz x h := by simp [P_V_peerOf]
theorem ixb_0 : ix (nI 0) = 0 := nI_clamp (by decide)
theorem ixb_1 : ix (nI 1) = 1 := nI_clamp (by decide)
theorem vpb_0 : vp_in (nI 0) 2 := vp_in_nI (by decide) (by decide)
theorem vpb_1 : vp_in (nI 1) 2 := vp_in_nI (by decide) (by decide)
theorem om_0 : (1 : Int32) - nI 0 = nI 1 := x1m (b := 0) (by decide)
theorem om_1 : (1 : Int32) - nI 1 = nI 0 := x1m (b := 1) (by decide)
