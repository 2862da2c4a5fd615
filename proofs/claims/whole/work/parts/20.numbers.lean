def bt (x : Int32) (i : Nat) : Bool := x.toBitVec.getLsbD i
theorem b_ext {x y : Int32} (h : ∀ i, i < 32 → bt x i = bt y i) : x = y := Int32.toBitVec_inj.mp (BitVec.eq_of_getLsbD_eq (fun i hi => h i hi))
theorem b_or (x y : Int32) (i : Nat) : bt (x ||| y) i = (bt x i || bt y i) := by unfold bt; rw [Int32.toBitVec_or, BitVec.getLsbD_or]
theorem b_and (x y : Int32) (i : Nat) : bt (x &&& y) i = (bt x i && bt y i) := by unfold bt; rw [Int32.toBitVec_and, BitVec.getLsbD_and]
theorem b_xor (x y : Int32) (i : Nat) : bt (x ^^^ y) i = (bt x i ^^ bt y i) := by unfold bt; rw [Int32.toBitVec_xor, BitVec.getLsbD_xor]
theorem b_big {x : Int32} {i : Nat} (h : 32 ≤ i) : bt x i = false := BitVec.getLsbD_of_ge _ _ h
theorem b_255 (i : Nat) : bt 255 i = decide (i < 8) := by
  rcases Nat.lt_or_ge i 32 with h | h
  · exact (by decide +kernel : ∀ i, i < 32 → bt 255 i = decide (i < 8)) i h
  · rw [b_big h, decide_eq_false (by omega)]
theorem b_65535 (i : Nat) : bt 65535 i = decide (i < 16) := by
  rcases Nat.lt_or_ge i 32 with h | h
  · exact (by decide +kernel : ∀ i, i < 32 → bt 65535 i = decide (i < 16)) i h
  · rw [b_big h, decide_eq_false (by omega)]
theorem b_m1 : ∀ i, i < 32 → bt (-1) i = true := by decide +kernel
theorem b_0 (i : Nat) : bt 0 i = false := BitVec.getLsbD_zero
theorem s_l : ∀ n, n < 32 → ((nI n &&& 31).toBitVec.smod 32).toNat = n := by decide +kernel
theorem s_u : ∀ n, n < 32 → (((nI n).toUInt32 &&& Int32.toUInt32 31).toBitVec % 32).toNat = n := by decide +kernel
theorem b_shl (n : Nat) (hn : n < 32) (x : Int32) {i : Nat} (hi : i < 32) : bt (x <<< (nI n &&& 31)) i = (decide (n ≤ i) && bt x (i - n)) := by
  unfold bt
  rw [Int32.toBitVec_shiftLeft]
  show (x.toBitVec <<< ((nI n &&& 31).toBitVec.smod 32).toNat).getLsbD i = _
  rw [s_l n hn, BitVec.getLsbD_shiftLeft]
  rcases Nat.lt_or_ge i n with h | h
  · simp [h, Nat.not_le.mpr h]
  · simp [hi, h, Nat.not_lt.mpr h]
theorem b_ushr (n : Nat) (hn : n < 32) (x : Int32) (i : Nat) : bt ((x.toUInt32 >>> ((nI n).toUInt32 &&& Int32.toUInt32 31)).toInt32) i = bt x (n + i) := by
  show (x.toUInt32 >>> ((nI n).toUInt32 &&& Int32.toUInt32 31)).toBitVec.getLsbD i = x.toUInt32.toBitVec.getLsbD (n + i)
  rw [UInt32.toBitVec_shiftRight]
  show (x.toUInt32.toBitVec >>> (((nI n).toUInt32 &&& Int32.toUInt32 31).toBitVec % 32).toNat).getLsbD i = _
  rw [s_u n hn, BitVec.getLsbD_ushiftRight]
theorem li0 : (0 : Int32) = nI 0 := by decide +kernel
theorem li1 : (1 : Int32) = nI 1 := by decide +kernel
theorem li2 : (2 : Int32) = nI 2 := by decide +kernel
theorem li3 : (3 : Int32) = nI 3 := by decide +kernel
theorem li4 : (4 : Int32) = nI 4 := by decide +kernel
theorem li5 : (5 : Int32) = nI 5 := by decide +kernel
theorem li8 : (8 : Int32) = nI 8 := by decide +kernel
theorem li25 : (25 : Int32) = nI 25 := by decide +kernel
theorem li31 : (31 : Int32) = nI 31 := by decide +kernel
theorem li32 : (32 : Int32) = nI 32 := by decide +kernel
theorem li64 : (64 : Int32) = nI 64 := by decide +kernel
theorem li100 : (100 : Int32) = nI 100 := by decide +kernel
theorem li300 : (300 : Int32) = nI 300 := by decide +kernel
theorem li10000 : (10000 : Int32) = nI 10000 := by decide +kernel
theorem bt_1 : ∀ i, i < 32 → bt 1 i = decide (i = 0) := by decide +kernel
theorem bt_one : ∀ a, a < 32 → ∀ j, j < 32 → bt ((1 : Int32) <<< (nI a &&& 31)) j = decide (j = a) := by decide +kernel
theorem bt_ext15 : ∀ e, e < 8 → ∀ j, j < 32 → bt ((15 : Int32) <<< ((nI e * (4 : Int32)) &&& 31)) j = decide (j / 4 = e) := by decide +kernel
theorem bt_clr (x : Int32) {a j : Nat} (ha : a < 32) (hj : j < 32) : bt (x &&& (((1 : Int32) <<< (nI a &&& 31)) ^^^ (-1 : Int32))) j = (bt x j && !decide (j = a)) := by
  rw [b_and, b_xor, bt_one a ha j hj, b_m1 j hj]
  cases bt x j <;> cases decide (j = a) <;> rfl
theorem bt_set (x : Int32) {a j : Nat} (ha : a < 32) (hj : j < 32) : bt (x ||| ((1 : Int32) <<< (nI a &&& 31))) j = (bt x j || decide (j = a)) := by
  rw [b_or, bt_one a ha j hj]
theorem bt_zero (x : Int32) : x = 0 ↔ ∀ j, j < 32 → bt x j = false := by
  constructor
  · rintro rfl j _
    exact b_0 j
  · intro h
    exact b_ext (fun i hi => by rw [h i hi, b_0])
theorem has_bit (x : Int32) {j : Nat} (hj : j < 32) : ((x.toUInt32 >>> ((nI j).toUInt32 &&& Int32.toUInt32 31)).toInt32 &&& (1 : Int32)) = 0 ↔ bt x j = false := by
  constructor
  · intro h0
    have h1 := congrArg (fun z => bt z 0) h0
    simp only [b_and, b_ushr j hj, b_0, Nat.add_zero] at h1
    rw [bt_1 0 (by decide)] at h1
    simpa using h1
  · intro h0
    apply b_ext
    intro i hi
    rw [b_and, b_ushr j hj, b_0, bt_1 i hi]
    cases i with
    | zero => simp [h0]
    | succ i => simp
def bi (b : Bool) : Int32 := if b then 1 else 0
theorem bi_0 (b : Bool) : bi b = 0 ↔ b = false := by cases b <;> decide
theorem bi_t : bi true = 1 := rfl
theorem bi_f : bi false = 0 := rfl
theorem bi_nar (b : Bool) : narrow .boolean (.int (bi b)) = .int (bi b) := by cases b <;> decide
def cn (p : Nat → Bool) : Nat → Nat → Nat
  | _, 0 => 0
  | a, k + 1 => cond (p a) 1 0 + cn p (a + 1) k
theorem cn_le (p : Nat → Bool) : ∀ k a, cn p a k ≤ k
  | 0, a => Nat.le_refl _
  | k + 1, a => by
    have := cn_le p k (a + 1)
    rw [cn]
    cases p a <;> simp only [cond_true, cond_false] <;> omega
theorem cn_congr {p q : Nat → Bool} : ∀ k a, (∀ i, a ≤ i → i < a + k → p i = q i) → cn p a k = cn q a k
  | 0, a, _ => rfl
  | k + 1, a, h => by
    rw [cn, cn, h a (Nat.le_refl _) (by omega), cn_congr k (a + 1) (fun i h1 h2 => h i (by omega) (by omega))]
theorem cn_mono {p q : Nat → Bool} : ∀ k a, (∀ i, a ≤ i → i < a + k → p i = true → q i = true) → cn p a k ≤ cn q a k
  | 0, a, _ => Nat.le_refl _
  | k + 1, a, h => by
    have h1 := cn_mono (p := p) (q := q) k (a + 1) (fun i h1 h2 => h i (by omega) (by omega))
    have h2 := h a (Nat.le_refl _) (by omega)
    rw [cn, cn]
    cases hp : p a with
    | false => simp only [cond_false]; omega
    | true => rw [h2 hp]; simp only [cond_true]; omega
theorem cn_filter (p : Nat → Bool) : ∀ k a, cn p a k = ((List.range' a k).filter p).length
  | 0, a => rfl
  | k + 1, a => by
    rw [cn, cn_filter p k (a + 1), List.range'_succ, List.filter_cons]
    cases p a
    · simp
    · simp [Nat.add_comm]
theorem cn_len {p : Nat → Bool} {a k : Nat} {l : List Nat} (nd : l.Nodup) (h : ∀ x, x ∈ l ↔ (a ≤ x ∧ x < a + k) ∧ p x = true) : cn p a k = l.length := by
  rw [cn_filter]
  have nd2 : ((List.range' a k).filter p).Nodup := List.Pairwise.filter p List.nodup_range'
  refine ((List.perm_ext_iff_of_nodup nd2 nd).mpr (fun x => ?_)).length_eq
  rw [List.mem_filter, List.mem_range'_1, h]
theorem cn_pos {p : Nat → Bool} : ∀ k a, 0 < cn p a k ↔ ∃ i, a ≤ i ∧ i < a + k ∧ p i = true
  | 0, a => ⟨fun h => absurd h (Nat.lt_irrefl _), fun ⟨i, h1, h2, _⟩ => by omega⟩
  | k + 1, a => by
    have ih := cn_pos (p := p) k (a + 1)
    constructor
    · intro h
      cases hp : p a with
      | true => exact ⟨a, Nat.le_refl _, by omega, hp⟩
      | false =>
        rw [cn, hp, cond_false, Nat.zero_add] at h
        obtain ⟨i, h1, h2, h3⟩ := ih.mp h
        exact ⟨i, by omega, by omega, h3⟩
    · rintro ⟨i, h1, h2, h3⟩
      rw [cn]
      by_cases e : i = a
      · subst e
        rw [h3, cond_true]
        omega
      · have := ih.mpr ⟨i, by omega, by omega, h3⟩
        omega
theorem cn_snoc (p : Nat → Bool) : ∀ k a, cn p a (k + 1) = cn p a k + cond (p (a + k)) 1 0
  | 0, a => by simp [cn]
  | k + 1, a => by
    rw [cn, cn_snoc p k (a + 1), cn, show a + 1 + k = a + (k + 1) by omega]
    omega
def fnd (p : Nat → Bool) : Nat → Nat → Option Nat
  | _, 0 => none
  | a, k + 1 => cond (p a) (some a) (fnd p (a + 1) k)
def oi : Option Nat → Int32
  | some i => nI i
  | none => -1
theorem fnd_congr {p q : Nat → Bool} : ∀ k a, (∀ i, a ≤ i → i < a + k → p i = q i) → fnd p a k = fnd q a k
  | 0, a, _ => rfl
  | k + 1, a, h => by
    rw [fnd, fnd, h a (Nat.le_refl _) (by omega), fnd_congr k (a + 1) (fun i h1 h2 => h i (by omega) (by omega))]
theorem fnd_some {p : Nat → Bool} : ∀ k a i, fnd p a k = some i → a ≤ i ∧ i < a + k ∧ p i = true ∧ ∀ i', a ≤ i' → i' < i → p i' = false
  | 0, a, i, h => by cases h
  | k + 1, a, i, h => by
    rw [fnd] at h
    cases hp : p a with
    | true =>
      rw [hp] at h
      have e : a = i := Option.some.inj h
      subst e
      exact ⟨Nat.le_refl _, by omega, hp, fun i' h1 h2 => by omega⟩
    | false =>
      rw [hp] at h
      obtain ⟨h1, h2, h3, h4⟩ := fnd_some k (a + 1) i h
      refine ⟨by omega, by omega, h3, fun i' g1 g2 => ?_⟩
      by_cases e : i' = a
      · rw [e]; exact hp
      · exact h4 i' (by omega) g2
theorem fnd_none {p : Nat → Bool} : ∀ k a, fnd p a k = none → ∀ i, a ≤ i → i < a + k → p i = false
  | 0, a, _, i, h1, h2 => by omega
  | k + 1, a, h, i, h1, h2 => by
    rw [fnd] at h
    cases hp : p a with
    | true => rw [hp] at h; cases h
    | false =>
      rw [hp] at h
      by_cases e : i = a
      · rw [e]; exact hp
      · exact fnd_none k (a + 1) h i (by omega) (by omega)
def fndD (p : Nat → Bool) : Nat → Option Nat
  | 0 => none
  | k + 1 => cond (p k) (some k) (fndD p k)
theorem fndD_some {p : Nat → Bool} : ∀ k i, fndD p k = some i → i < k ∧ p i = true ∧ ∀ i', i < i' → i' < k → p i' = false
  | 0, i, h => by cases h
  | k + 1, i, h => by
    rw [fndD] at h
    cases hp : p k with
    | true =>
      rw [hp] at h
      have e : k = i := Option.some.inj h
      subst e
      exact ⟨by omega, hp, fun i' h1 h2 => by omega⟩
    | false =>
      rw [hp] at h
      obtain ⟨h1, h2, h3⟩ := fndD_some k i h
      refine ⟨by omega, h2, fun i' g1 g2 => ?_⟩
      by_cases e : i' = k
      · rw [e]; exact hp
      · exact h3 i' g1 (by omega)
theorem fndD_none {p : Nat → Bool} : ∀ k, fndD p k = none → ∀ i, i < k → p i = false
  | 0, _, i, h => by omega
  | k + 1, h, i, hi => by
    rw [fndD] at h
    cases hp : p k with
    | true => rw [hp] at h; cases h
    | false =>
      rw [hp] at h
      by_cases e : i = k
      · rw [e]; exact hp
      · exact fndD_none k h i (by omega)
theorem oi_m1 (o : Option Nat) (ho : ∀ i, o = some i → i < 2 ^ 31) : oi o = -1 ↔ o = none := by
  cases o with
  | none => exact ⟨fun _ => rfl, fun _ => rfl⟩
  | some i =>
    refine ⟨fun h => ?_, fun h => by cases h⟩
    have h1 : ¬ nI i < 0 := nI_pos (ho i rfl)
    have h2 : nI i = -1 := h
    rw [h2] at h1
    exact absurd (by decide) h1
def ug {α : Type} (f : Nat → α) (b : Nat) (x : α) : Nat → α := fun c => if c = b then x else f c
theorem B_hasBlock (fz : Nat) (x : Int32) (h : HH) {j : Nat} (hj : j < 32) : B_V_hasBlock fz x (nI j) h = bi (bt x j) := by
  unfold B_V_hasBlock
  cases hb : bt x j with
  | false => rw [if_pos ((has_bit x hj).mpr hb)]; rfl
  | true => rw [if_neg (fun q => by rw [(has_bit x hj).mp q] at hb; cases hb)]; rfl
