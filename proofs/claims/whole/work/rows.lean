section
abbrev HH : Type := Nat → Nat → Int32
def u2 (h : HH) (i k : Nat) (v : Int32) : HH := fun a b => if a = i ∧ b = k then v else h a b
theorem u2_s (h : HH) (i k : Nat) (v : Int32) : u2 h i k v i k = v := by simp [u2]
theorem u2_i (h : HH) {i a : Nat} (k : Nat) (v : Int32) (ha : a ≠ i) : u2 h i k v a = h a := by funext b; simp [u2, ha]
theorem u2_k (h : HH) {i k b : Nat} (v : Int32) (a : Nat) (hb : b ≠ k) : u2 h i k v a b = h a b := by simp [u2, hb]
abbrev ix (x : Int32) : Nat := x.toNatClampNeg
abbrev sh_E : Type := (Nat × Bool) ⊕ (Nat × List Nat)
def mk_f (ad : Nat → Nat) (h : HH) (i : Nat) (k : Nat) (o : Nat) : Value := match o with
  | 0 => .int (h i k)
  | 1 => .null
  | j + 2 => .ref (ad j)
def mk_v (cI cZ : ClassId) (ad : Nat → Nat) (h : HH) (i : Nat) (e : sh_E) : va_E := match e with
  | .inl a => .inl (cond a.2 cZ cI, a.1, .inl (h i))
  | .inr o => .inr (o.1, o.2.mapIdx (mk_f ad h i))
def mk_e (cI cZ : ClassId) (ad : Nat → Nat) (h : HH) (i : Nat) (e : sh_E) : Nat × va_E := (ad i, mk_v cI cZ ad h i e)
def wld (S : List sh_E) (cI cZ : ClassId) (ad : Nat → Nat) (h : HH) : va_W := S.mapIdx (mk_e cI cZ ad h)
def AdOk (base : Nat) (ad : Nat → Nat) (n : Nat) : Prop := (∀ i j, i < n → j < n → ad i = ad j → i = j) ∧ ∀ i, i < n → base ≤ ad i
section WLD
variable {S : List sh_E} {cI cZ : ClassId} {base : Nat} {ad : Nat → Nat} {h : HH}
theorem wld_at {i : Nat} {e : sh_E} (hs : S[i]? = some e) : (wld S cI cZ ad h)[i]? = some (ad i, mk_v cI cZ ad h i e) := by
  unfold wld
  rw [List.getElem?_mapIdx, hs]
  rfl
theorem wld_key {k : Nat} {q : Nat × va_E} (hk : (wld S cI cZ ad h)[k]? = some q) : k < S.length ∧ q.1 = ad k := by
  unfold wld at hk
  rw [List.getElem?_mapIdx] at hk
  cases hs : S[k]? with
  | none => rw [hs] at hk; cases hk
  | some e =>
    rw [hs] at hk
    cases hk
    exact ⟨(List.getElem?_eq_some_iff.mp hs).1, rfl⟩
theorem wld_D (hA : AdOk base ad S.length) : va_D (fun q => base ≤ q) (wld S cI cZ ad h) := by
  refine ⟨fun i j p q hi hj hpq => ?_, fun k q hk => ?_⟩
  · obtain ⟨l1, h1⟩ := wld_key hi
    obtain ⟨l2, h2⟩ := wld_key hj
    exact hA.1 i j l1 l2 (h1.symm.trans (hpq.trans h2))
  · obtain ⟨l1, h1⟩ := wld_key hk
    show base ≤ q.1
    rw [h1]
    exact hA.2 k l1
theorem mk_v_ne {i j k : Nat} {v : Int32} (e : sh_E) (hj : j ≠ i) : mk_v cI cZ ad (u2 h i k v) j e = mk_v cI cZ ad h j e := by
  have h1 : u2 h i k v j = h j := u2_i h k v hj
  have h2 : mk_f ad (u2 h i k v) j = mk_f ad h j := by
    funext a o
    match o with
    | 0 => simp [mk_f, h1]
    | 1 => rfl
    | x + 2 => rfl
  cases e with
  | inl a => simp [mk_v, h1]
  | inr o => simp [mk_v, h2]
theorem mk_put {i k : Nat} {ks : List Nat} (hk : ks[k]? = some 0) (v : Int32) : (ks.mapIdx (mk_f ad h i)).set k (.int v) = ks.mapIdx (mk_f ad (u2 h i k v) i) := by
  have hl : k < ks.length := (List.getElem?_eq_some_iff.mp hk).1
  apply List.ext_getElem?
  intro j
  rw [List.getElem?_mapIdx]
  by_cases hj : k = j
  · subst hj
    rw [List.getElem?_set_self (by rw [List.length_mapIdx]; exact hl), hk]
    simp [mk_f, u2]
  · rw [List.getElem?_set_ne hj, List.getElem?_mapIdx]
    cases ks[j]? with
    | none => rfl
    | some o =>
      match o with
      | 0 => simp [mk_f, u2_k h v i (Ne.symm hj)]
      | 1 => rfl
      | x + 2 => rfl
theorem wld_set {i k : Nat} {v : Int32} {e : sh_E} {w : va_E} (hs : S[i]? = some e) (hw : w = mk_v cI cZ ad (u2 h i k v) i e) : (wld S cI cZ ad h).set i (ad i, w) = wld S cI cZ ad (u2 h i k v) := by
  have hl : i < (wld S cI cZ ad h).length := (List.getElem?_eq_some_iff.mp (wld_at hs)).1
  apply List.ext_getElem?
  intro j
  by_cases hj : i = j
  · subst hj
    rw [List.getElem?_set_self hl, wld_at hs, hw]
  · rw [List.getElem?_set_ne hj]
    cases hsj : S[j]? with
    | none =>
      unfold wld
      rw [List.getElem?_mapIdx, List.getElem?_mapIdx, hsj]
      rfl
    | some e' => rw [wld_at hsj, wld_at hsj, mk_v_ne e' (Ne.symm hj)]
end WLD
def Lc (ls : Array Slot) (nL : Nat) (vs : List (Option Value)) : Prop := ls.size = nL ∧ lv_wf ls ∧ (∀ (i : Nat) (v : Value), vs[i]? = some (some v) → ls[i]? = some (.val v) ∧ v.category = 1)
theorem Lc.at {ls : Array Slot} {nL : Nat} {vs : List (Option Value)} (h : Lc ls nL vs) (i : Nat) {v : Value} (hv : vs[i]? = some (some v)) : ls[i]? = some (.val v) := (h.2.2 i v hv).1
def Lm (vs : List (Option Value)) (ms : List Bool) : List (Option Value) := vs.zipWith (fun v b => cond b v none) ms
theorem Lc.mask {ls : Array Slot} {nL : Nat} {vs : List (Option Value)} (h : Lc ls nL vs) (ms : List Bool) : Lc ls nL (Lm vs ms) := by
  refine ⟨h.1, h.2.1, fun i v hv => ?_⟩
  unfold Lm at hv
  rw [List.getElem?_zipWith] at hv
  cases h1 : vs[i]? with
  | none => rw [h1] at hv; cases hv
  | some a =>
    cases h2 : ms[i]? with
    | none => rw [h1, h2] at hv; cases hv
    | some b =>
      rw [h1, h2] at hv
      cases b with
      | false => cases hv
      | true =>
        have ha : a = some v := Option.some.inj hv
        subst ha
        exact h.2.2 i v h1
def Lx : Nat → List (Option Value) → List (Nat × Value)
  | _, [] => []
  | n, none :: l => Lx (n + 1) l
  | n, some v :: l => (n, v) :: Lx (n + 1) l
theorem Lx_in : ∀ (l : List (Option Value)) (n : Nat) (q : Nat × Value), q ∈ Lx n l → ∃ i, q.1 = n + i ∧ l[i]? = some (some q.2)
  | [], n, q, h => by simp [Lx] at h
  | none :: l, n, q, h => by
    obtain ⟨i, h1, h2⟩ := Lx_in l (n + 1) q h
    exact ⟨i + 1, by omega, by simpa using h2⟩
  | some v :: l, n, q, h => by
    rcases List.mem_cons.mp h with rfl | h
    · exact ⟨0, rfl, rfl⟩
    · obtain ⟨i, h1, h2⟩ := Lx_in l (n + 1) q h
      exact ⟨i + 1, by omega, by simpa using h2⟩
theorem Lx_mem : ∀ (l : List (Option Value)) (n i : Nat) (v : Value), l[i]? = some (some v) → (n + i, v) ∈ Lx n l
  | [], n, i, v, h => by simp at h
  | none :: l, n, i, v, h => by
    cases i with
    | zero => simp at h
    | succ i =>
      have := Lx_mem l (n + 1) i v (by simpa using h)
      rw [show n + (i + 1) = n + 1 + i by omega]
      exact this
  | some w :: l, n, i, v, h => by
    cases i with
    | zero =>
      have : w = v := by simpa using h
      subst this
      exact List.mem_cons_self
    | succ i =>
      have := Lx_mem l (n + 1) i v (by simpa using h)
      rw [show n + (i + 1) = n + 1 + i by omega]
      exact List.mem_cons_of_mem _ this
theorem Lc.has {ls : Array Slot} {nL : Nat} {vs : List (Option Value)} (h : Lc ls nL vs) : lv_has ls nL (Lx 0 vs) := by
  refine ⟨h.1, h.2.1, fun q hq => ?_⟩
  obtain ⟨i, h1, h2⟩ := Lx_in vs 0 q hq
  rw [h1, Nat.zero_add]
  exact (h.2.2 i q.2 h2).1
theorem Lc.put {ls ls' : Array Slot} {nL i : Nat} {vs : List (Option Value)} {v : Value} (h : Lc ls nL vs) (hv : v.category = 1) (h' : lv_has ls' nL ((i, v) :: (Lx 0 vs).filter (fun q => !(q.1 == i) && !(q.1 + 1 == i && q.2.category == 2)))) : Lc ls' nL (vs.set i (some v)) := by
  refine ⟨h'.1, h'.2.1, fun j w hw => ?_⟩
  by_cases hij : i = j
  · subst hij
    have hl : i < (vs.set i (some v)).length := (List.getElem?_eq_some_iff.mp hw).1
    rw [List.length_set] at hl
    rw [List.getElem?_set_self hl] at hw
    have : v = w := by simpa using hw
    subst this
    exact ⟨h'.2.2 (i, v) List.mem_cons_self, hv⟩
  · rw [List.getElem?_set_ne hij] at hw
    have hc := (h.2.2 j w hw).2
    have hm := Lx_mem vs 0 j w hw
    rw [Nat.zero_add] at hm
    refine ⟨h'.2.2 (j, w) (List.mem_cons_of_mem _ (List.mem_filter.mpr ⟨hm, ?_⟩)), hc⟩
    have h1 : ¬ j = i := fun q => hij q.symm
    simp [h1, hc]
theorem lv_args_at : ∀ (vs : List Value) (i j : Nat) (v : Value), (∀ w ∈ vs, w.category = 1) → vs[j]? = some v → (i + j, v) ∈ lv_args i vs
  | [], i, j, v, _, h => by simp at h
  | w :: vs, i, j, v, hc, h => by
    have h1 : w.category = 1 := hc w List.mem_cons_self
    have e : lv_args i (w :: vs) = (i, w) :: lv_args (i + 1) vs := by simp [lv_args, h1]
    rw [e]
    cases j with
    | zero =>
      have : w = v := by simpa using h
      subst this
      exact List.mem_cons_self
    | succ j =>
      have := lv_args_at vs (i + 1) j v (fun q hq => hc q (List.mem_cons_of_mem _ hq)) (by simpa using h)
      rw [show i + (j + 1) = i + 1 + j by omega]
      exact List.mem_cons_of_mem _ this
theorem Lc_entry {ls : Array Slot} {n : Nat} {avs : List Value} (hcat : ∀ v ∈ avs, v.category = 1) (hl : lv_has ls n (lv_args 0 avs)) : Lc ls n (avs.map some ++ List.replicate (n - avs.length) none) := by
  refine ⟨hl.1, hl.2.1, fun i v hv => ?_⟩
  by_cases hi : i < avs.length
  · rw [List.getElem?_append_left (by simpa using hi), List.getElem?_map] at hv
    cases hx : avs[i]? with
    | none => rw [hx] at hv; cases hv
    | some w =>
      rw [hx] at hv
      have : w = v := by simpa using hv
      subst this
      have h2 := hl.2.2 (0 + i, w) (lv_args_at avs 0 i w hcat hx)
      refine ⟨by simpa using h2, hcat w (List.mem_of_getElem? hx)⟩
  · rw [List.getElem?_append_right (by simpa using hi)] at hv
    have h1 := List.mem_of_getElem? hv
    have h2 := List.eq_of_mem_replicate h1
    cases h2
def catOk (vs : List Value) : Bool := vs.all (fun v => v.category == 1)
theorem cat_ok {vs : List Value} (h : catOk vs = true) : ∀ v ∈ vs, v.category = 1 := by
  intro v hv
  have := List.all_eq_true.mp h v hv
  simpa using this
end
section
def B_V_isNode (fz : Nat) (x0 : Int32) (h : HH) : Int32 := if x0 = 0 then ((1 : Int32)) else (if x0 = (1 : Int32) then ((1 : Int32)) else ((0 : Int32)))
def P_V_isNode (fz : Nat) (x0 : Int32) (h : HH) : Prop := (x0 = 0 → (True)) ∧ (¬ x0 = 0 → ((x0 = (1 : Int32) → (True)) ∧ (¬ x0 = (1 : Int32) → (True))))
def B_V_isBlock (fz : Nat) (x0 : Int32) (h : HH) : Int32 := if x0 < 0 then ((0 : Int32)) else (if (32 : Int32) ≤ x0 then ((0 : Int32)) else ((1 : Int32)))
def P_V_isBlock (fz : Nat) (x0 : Int32) (h : HH) : Prop := (x0 < 0 → (True)) ∧ (¬ x0 < 0 → (((32 : Int32) ≤ x0 → (True)) ∧ (¬ (32 : Int32) ≤ x0 → (True))))
def B_V_nodeOf (fz : Nat) (x1 : Int32) (h : HH) : Nat := if x1 = 0 then (1) else (11)
def P_V_nodeOf (fz : Nat) (x1 : Int32) (h : HH) : Prop := (x1 = 0 → (True)) ∧ (¬ x1 = 0 → (True))
def B_T_isFull (fz : Nat)  (h : HH) : Int32 := if (h 21 5) < (300 : Int32) then ((0 : Int32)) else ((1 : Int32))
def P_T_isFull (fz : Nat)  (h : HH) : Prop := ((h 21 5) < (300 : Int32) → (True)) ∧ (¬ (h 21 5) < (300 : Int32) → (True))
def B_T_isPendingOf (fz : Nat) (x1 : Int32) (x2 : Int32) (h : HH) : Int32 := if (h 22 (ix x2)) = x1 then (if (h 26 (ix x2)) = (1 : Int32) then ((1 : Int32)) else ((0 : Int32))) else ((0 : Int32))
def P_T_isPendingOf (fz : Nat) (x1 : Int32) (x2 : Int32) (h : HH) : Prop := vp_in x2 301 ∧ (((h 22 (ix x2)) = x1 → (vp_in x2 301 ∧ (((h 26 (ix x2)) = (1 : Int32) → (True)) ∧ (¬ (h 26 (ix x2)) = (1 : Int32) → (True))))) ∧ (¬ (h 22 (ix x2)) = x1 → (True)))
def B_T_countPending_4 (fz : Nat) : Nat → Int32 → Int32 → Int32 → HH → Int32
  | 0, _, _, _, _ => 0
  | fu + 1, x1, x2, x3, h => if (h 21 5) < x3 then (x2) else (if (B_T_isPendingOf fz x1 x3 h) = 0 then (B_T_countPending_4 fz fu x1 x2 (x3 + 1) h) else (B_T_countPending_4 fz fu x1 (x2 + 1) (x3 + 1) h))
def P_T_countPending_4 (fz : Nat) : Nat → Int32 → Int32 → Int32 → HH → Prop
  | 0, _, _, _, _ => False
  | fu + 1, x1, x2, x3, h => ((h 21 5) < x3 → (True)) ∧ (¬ (h 21 5) < x3 → (P_T_isPendingOf fz x1 x3 h ∧ (((B_T_isPendingOf fz x1 x3 h) = 0 → (P_T_countPending_4 fz fu x1 x2 (x3 + 1) h)) ∧ (¬ (B_T_isPendingOf fz x1 x3 h) = 0 → (P_T_countPending_4 fz fu x1 (x2 + 1) (x3 + 1) h)))))
def B_T_countPending (fz : Nat) (x1 : Int32) (h : HH) : Int32 := B_T_countPending_4 fz fz x1 (0 : Int32) (1 : Int32) h
def P_T_countPending (fz : Nat) (x1 : Int32) (h : HH) : Prop := P_T_countPending_4 fz fz x1 (0 : Int32) (1 : Int32) h
def B_T_pendingBlocks_4 (fz : Nat) : Nat → Int32 → Int32 → Int32 → HH → Int32
  | 0, _, _, _, _ => 0
  | fu + 1, x1, x2, x3, h => if (h 21 5) < x3 then (x2) else (if (B_T_isPendingOf fz x1 x3 h) = 0 then (B_T_pendingBlocks_4 fz fu x1 x2 (x3 + 1) h) else (B_T_pendingBlocks_4 fz fu x1 (x2 ||| ((1 : Int32) <<< ((h 23 (ix x3)) &&& 31))) (x3 + 1) h))
def P_T_pendingBlocks_4 (fz : Nat) : Nat → Int32 → Int32 → Int32 → HH → Prop
  | 0, _, _, _, _ => False
  | fu + 1, x1, x2, x3, h => ((h 21 5) < x3 → (True)) ∧ (¬ (h 21 5) < x3 → (P_T_isPendingOf fz x1 x3 h ∧ (((B_T_isPendingOf fz x1 x3 h) = 0 → (P_T_pendingBlocks_4 fz fu x1 x2 (x3 + 1) h)) ∧ (¬ (B_T_isPendingOf fz x1 x3 h) = 0 → (vp_in x3 301 ∧ (P_T_pendingBlocks_4 fz fu x1 (x2 ||| ((1 : Int32) <<< ((h 23 (ix x3)) &&& 31))) (x3 + 1) h))))))
def B_T_pendingBlocks (fz : Nat) (x1 : Int32) (h : HH) : Int32 := B_T_pendingBlocks_4 fz fz x1 (0 : Int32) (1 : Int32) h
def P_T_pendingBlocks (fz : Nat) (x1 : Int32) (h : HH) : Prop := P_T_pendingBlocks_4 fz fz x1 (0 : Int32) (1 : Int32) h
def B_V_blocksOfExtent (fz : Nat) (x0 : Int32) (h : HH) : Int32 := ((15 : Int32) <<< ((x0 * (4 : Int32)) &&& 31))
def P_V_blocksOfExtent (fz : Nat) (x0 : Int32) (h : HH) : Prop := True
def B_E_placeFor_48 (fz : Nat) : Nat → Nat → Int32 → Int32 → HH → Int32
  | 0, _, _, _, _ => 0
  | fu + 1, i0, x2, x3, h => if x3 < 0 then ((-1 : Int32)) else (if ((B_V_blocksOfExtent fz (h (i0 + 3) (ix x3)) h) &&& x2) = 0 then (x3) else (B_E_placeFor_48 fz fu i0 x2 (x3 + (-1)) h))
def P_E_placeFor_48 (fz : Nat) : Nat → Nat → Int32 → Int32 → HH → Prop
  | 0, _, _, _, _ => False
  | fu + 1, i0, x2, x3, h => (x3 < 0 → (True)) ∧ (¬ x3 < 0 → (vp_in x3 3 ∧ (P_V_blocksOfExtent fz (h (i0 + 3) (ix x3)) h ∧ ((((B_V_blocksOfExtent fz (h (i0 + 3) (ix x3)) h) &&& x2) = 0 → (True)) ∧ (¬ ((B_V_blocksOfExtent fz (h (i0 + 3) (ix x3)) h) &&& x2) = 0 → (P_E_placeFor_48 fz fu i0 x2 (x3 + (-1)) h))))))
def B_E_placeFor_2 (fz : Nat) : Nat → Nat → Int32 → Int32 → Int32 → HH → Int32
  | 0, _, _, _, _, _ => 0
  | fu + 1, i0, x1, x2, x3, h => if (h (i0 + 2) 1) ≤ x3 then (if (3 : Int32) ≤ (h (i0 + 2) 1) then (B_E_placeFor_48 fz fz i0 x2 ((h (i0 + 2) 1) - (1 : Int32)) h) else ((h (i0 + 2) 1))) else (if (h (i0 + 3) (ix x3)) = x1 then (x3) else (B_E_placeFor_2 fz fu i0 x1 x2 (x3 + 1) h))
def P_E_placeFor_2 (fz : Nat) : Nat → Nat → Int32 → Int32 → Int32 → HH → Prop
  | 0, _, _, _, _, _ => False
  | fu + 1, i0, x1, x2, x3, h => ((h (i0 + 2) 1) ≤ x3 → (((3 : Int32) ≤ (h (i0 + 2) 1) → (P_E_placeFor_48 fz fz i0 x2 ((h (i0 + 2) 1) - (1 : Int32)) h)) ∧ (¬ (3 : Int32) ≤ (h (i0 + 2) 1) → (True)))) ∧ (¬ (h (i0 + 2) 1) ≤ x3 → (vp_in x3 3 ∧ (((h (i0 + 3) (ix x3)) = x1 → (True)) ∧ (¬ (h (i0 + 3) (ix x3)) = x1 → (P_E_placeFor_2 fz fu i0 x1 x2 (x3 + 1) h)))))
def B_E_placeFor (fz : Nat) (i0 : Nat) (x1 : Int32) (x2 : Int32) (h : HH) : Int32 := B_E_placeFor_2 fz fz i0 x1 x2 (0 : Int32) h
def P_E_placeFor (fz : Nat) (i0 : Nat) (x1 : Int32) (x2 : Int32) (h : HH) : Prop := P_E_placeFor_2 fz fz i0 x1 x2 (0 : Int32) h
def B_E_putInFront_43 (fz : Nat) (i0 : Nat) (x2 : Int32) (h : HH) : HH := if x2 = (h (i0 + 2) 1) then ((u2 h (i0 + 2) 1 ((h (i0 + 2) 1) + (1 : Int32)))) else (h)
def P_E_putInFront_43 (fz : Nat) (i0 : Nat) (x2 : Int32) (h : HH) : Prop := (x2 = (h (i0 + 2) 1) → (True)) ∧ (¬ x2 = (h (i0 + 2) 1) → (True))
def B_E_putInFront_12 (fz : Nat) : Nat → Nat → Int32 → Int32 → Int32 → HH → HH
  | 0, _, _, _, _, h => h
  | fu + 1, i0, x1, x2, x3, h => if x3 ≤ 0 then (B_E_putInFront_43 fz i0 x2 (u2 h (i0 + 3) (ix (0 : Int32)) x1)) else (B_E_putInFront_12 fz fu i0 x1 x2 (x3 + (-1)) (u2 h (i0 + 3) (ix x3) (h (i0 + 3) (ix (x3 - (1 : Int32))))))
def P_E_putInFront_12 (fz : Nat) : Nat → Nat → Int32 → Int32 → Int32 → HH → Prop
  | 0, _, _, _, _, _ => False
  | fu + 1, i0, x1, x2, x3, h => (x3 ≤ 0 → (vp_in (0 : Int32) 3 ∧ (P_E_putInFront_43 fz i0 x2 (u2 h (i0 + 3) (ix (0 : Int32)) x1)))) ∧ (¬ x3 ≤ 0 → (vp_in (x3 - (1 : Int32)) 3 ∧ (vp_in x3 3 ∧ (P_E_putInFront_12 fz fu i0 x1 x2 (x3 + (-1)) (u2 h (i0 + 3) (ix x3) (h (i0 + 3) (ix (x3 - (1 : Int32)))))))))
def B_E_putInFront (fz : Nat) (i0 : Nat) (x1 : Int32) (x2 : Int32) (h : HH) : HH := if x2 < 0 then (h) else (if x2 < (3 : Int32) then (B_E_putInFront_12 fz fz i0 x1 x2 x2 h) else (h))
def P_E_putInFront (fz : Nat) (i0 : Nat) (x1 : Int32) (x2 : Int32) (h : HH) : Prop := (x2 < 0 → (True)) ∧ (¬ x2 < 0 → ((x2 < (3 : Int32) → (P_E_putInFront_12 fz fz i0 x1 x2 x2 h)) ∧ (¬ x2 < (3 : Int32) → (True))))
def B_V_hasBlock (fz : Nat) (x0 : Int32) (x1 : Int32) (h : HH) : Int32 := if ((((x0).toUInt32 >>> ((x1).toUInt32 &&& Int32.toUInt32 31)).toInt32) &&& (1 : Int32)) = 0 then ((0 : Int32)) else ((1 : Int32))
def P_V_hasBlock (fz : Nat) (x0 : Int32) (x1 : Int32) (h : HH) : Prop := (((((x0).toUInt32 >>> ((x1).toUInt32 &&& Int32.toUInt32 31)).toInt32) &&& (1 : Int32)) = 0 → (True)) ∧ (¬ ((((x0).toUInt32 >>> ((x1).toUInt32 &&& Int32.toUInt32 31)).toInt32) &&& (1 : Int32)) = 0 → (True))
def B_N_epochOfNextWrite_26 (fz : Nat) (i0 : Nat) (h : HH) : Int32 × HH := ((h i0 15), h)
def P_N_epochOfNextWrite_26 (fz : Nat) (i0 : Nat) (h : HH) : Prop := True
def B_N_epochOfNextWrite_21 (fz : Nat) (i0 : Nat) (h : HH) : Int32 × HH := B_N_epochOfNextWrite_26 fz i0 (u2 h i0 16 (0 : Int32))
def P_N_epochOfNextWrite_21 (fz : Nat) (i0 : Nat) (h : HH) : Prop := P_N_epochOfNextWrite_26 fz i0 (u2 h i0 16 (0 : Int32))
def B_N_epochOfNextWrite_11 (fz : Nat) (i0 : Nat) (h : HH) : Int32 × HH := B_N_epochOfNextWrite_21 fz i0 (u2 h i0 15 ((h i0 15) + (1 : Int32)))
def P_N_epochOfNextWrite_11 (fz : Nat) (i0 : Nat) (h : HH) : Prop := P_N_epochOfNextWrite_21 fz i0 (u2 h i0 15 ((h i0 15) + (1 : Int32)))
def B_N_epochOfNextWrite (fz : Nat) (i0 : Nat) (x1 : Int32) (h : HH) : Int32 × HH := if (h i0 16) = 0 then (if x1 = 0 then (B_N_epochOfNextWrite_21 fz i0 h) else (B_N_epochOfNextWrite_11 fz i0 h)) else (B_N_epochOfNextWrite_11 fz i0 h)
def P_N_epochOfNextWrite (fz : Nat) (i0 : Nat) (x1 : Int32) (h : HH) : Prop := ((h i0 16) = 0 → ((x1 = 0 → (P_N_epochOfNextWrite_21 fz i0 h)) ∧ (¬ x1 = 0 → (P_N_epochOfNextWrite_11 fz i0 h)))) ∧ (¬ (h i0 16) = 0 → (P_N_epochOfNextWrite_11 fz i0 h))
def B_T_accept_70 (fz : Nat)  (h : HH) : Int32 × HH := ((h 21 5), h)
def P_T_accept_70 (fz : Nat)  (h : HH) : Prop := True
def B_T_accept_60 (fz : Nat)  (h : HH) : Int32 × HH := B_T_accept_70 fz  (u2 h 26 (ix (h 21 5)) (1 : Int32))
def P_T_accept_60 (fz : Nat)  (h : HH) : Prop := vp_in (h 21 5) 301 ∧ (P_T_accept_70 fz  (u2 h 26 (ix (h 21 5)) (1 : Int32)))
def B_T_accept_49 (fz : Nat) (x4 : Int32) (h : HH) : Int32 × HH := B_T_accept_60 fz  (u2 h 25 (ix (h 21 5)) x4)
def P_T_accept_49 (fz : Nat) (x4 : Int32) (h : HH) : Prop := vp_in (h 21 5) 301 ∧ (P_T_accept_60 fz  (u2 h 25 (ix (h 21 5)) x4))
def B_T_accept_39 (fz : Nat) (x3 : Int32) (x4 : Int32) (h : HH) : Int32 × HH := B_T_accept_49 fz x4 (u2 h 24 (ix (h 21 5)) x3)
def P_T_accept_39 (fz : Nat) (x3 : Int32) (x4 : Int32) (h : HH) : Prop := vp_in (h 21 5) 301 ∧ (P_T_accept_49 fz x4 (u2 h 24 (ix (h 21 5)) x3))
def B_T_accept_29 (fz : Nat) (x2 : Int32) (x3 : Int32) (x4 : Int32) (h : HH) : Int32 × HH := B_T_accept_39 fz x3 x4 (u2 h 23 (ix (h 21 5)) x2)
def P_T_accept_29 (fz : Nat) (x2 : Int32) (x3 : Int32) (x4 : Int32) (h : HH) : Prop := vp_in (h 21 5) 301 ∧ (P_T_accept_39 fz x3 x4 (u2 h 23 (ix (h 21 5)) x2))
def B_T_accept_19 (fz : Nat) (x1 : Int32) (x2 : Int32) (x3 : Int32) (x4 : Int32) (h : HH) : Int32 × HH := B_T_accept_29 fz x2 x3 x4 (u2 h 22 (ix (h 21 5)) x1)
def P_T_accept_19 (fz : Nat) (x1 : Int32) (x2 : Int32) (x3 : Int32) (x4 : Int32) (h : HH) : Prop := vp_in (h 21 5) 301 ∧ (P_T_accept_29 fz x2 x3 x4 (u2 h 22 (ix (h 21 5)) x1))
def B_T_accept (fz : Nat) (x1 : Int32) (x2 : Int32) (x3 : Int32) (x4 : Int32) (h : HH) : Int32 × HH := if (B_T_isFull fz  h) = 0 then (B_T_accept_19 fz x1 x2 x3 x4 (u2 h 21 5 ((h 21 5) + (1 : Int32)))) else (((0 : Int32), h))
def P_T_accept (fz : Nat) (x1 : Int32) (x2 : Int32) (x3 : Int32) (x4 : Int32) (h : HH) : Prop := P_T_isFull fz  h ∧ (((B_T_isFull fz  h) = 0 → (P_T_accept_19 fz x1 x2 x3 x4 (u2 h 21 5 ((h 21 5) + (1 : Int32))))) ∧ (¬ (B_T_isFull fz  h) = 0 → (True)))
def B_O_send_48 (fz : Nat) (i0 : Nat) (h : HH) : HH := (u2 h (i0 + 4) 4 ((h (i0 + 4) 4) + (1 : Int32)))
def P_O_send_48 (fz : Nat) (i0 : Nat) (h : HH) : Prop := True
def B_O_send (fz : Nat) (i0 : Nat) (x1 : Int32) (x2 : Int32) (x3 : Int32) (h : HH) : HH := if (h (i0 + 4) 4) < (25 : Int32) then (B_O_send_48 fz i0 (u2 (u2 (u2 h (i0 + 5) (ix (((h (i0 + 4) 3) + (h (i0 + 4) 4)) - ((h (i0 + 4) 3) + (h (i0 + 4) 4)) / (25 : Int32) * (25 : Int32))) x1) (i0 + 6) (ix (((h (i0 + 4) 3) + (h (i0 + 4) 4)) - ((h (i0 + 4) 3) + (h (i0 + 4) 4)) / (25 : Int32) * (25 : Int32))) x2) (i0 + 7) (ix (((h (i0 + 4) 3) + (h (i0 + 4) 4)) - ((h (i0 + 4) 3) + (h (i0 + 4) 4)) / (25 : Int32) * (25 : Int32))) x3)) else (h)
def P_O_send (fz : Nat) (i0 : Nat) (x1 : Int32) (x2 : Int32) (x3 : Int32) (h : HH) : Prop := ((h (i0 + 4) 4) < (25 : Int32) → (vp_in (((h (i0 + 4) 3) + (h (i0 + 4) 4)) - ((h (i0 + 4) 3) + (h (i0 + 4) 4)) / (25 : Int32) * (25 : Int32)) 25 ∧ (vp_in (((h (i0 + 4) 3) + (h (i0 + 4) 4)) - ((h (i0 + 4) 3) + (h (i0 + 4) 4)) / (25 : Int32) * (25 : Int32)) 25 ∧ (vp_in (((h (i0 + 4) 3) + (h (i0 + 4) 4)) - ((h (i0 + 4) 3) + (h (i0 + 4) 4)) / (25 : Int32) * (25 : Int32)) 25 ∧ (P_O_send_48 fz i0 (u2 (u2 (u2 h (i0 + 5) (ix (((h (i0 + 4) 3) + (h (i0 + 4) 4)) - ((h (i0 + 4) 3) + (h (i0 + 4) 4)) / (25 : Int32) * (25 : Int32))) x1) (i0 + 6) (ix (((h (i0 + 4) 3) + (h (i0 + 4) 4)) - ((h (i0 + 4) 3) + (h (i0 + 4) 4)) / (25 : Int32) * (25 : Int32))) x2) (i0 + 7) (ix (((h (i0 + 4) 3) + (h (i0 + 4) 4)) - ((h (i0 + 4) 3) + (h (i0 + 4) 4)) / (25 : Int32) * (25 : Int32))) x3)))))) ∧ (¬ (h (i0 + 4) 4) < (25 : Int32) → (True))
def B_V_endUpAlone_69 (fz : Nat) (i2 : Nat) (h : HH) : HH := (u2 h i2 6 (h 0 4))
def P_V_endUpAlone_69 (fz : Nat) (i2 : Nat) (h : HH) : Prop := True
def B_V_endUpAlone_59 (fz : Nat) (i2 : Nat) (h : HH) : HH := B_V_endUpAlone_69 fz i2 (u2 h 0 4 ((h 0 4) + (1 : Int32)))
def P_V_endUpAlone_59 (fz : Nat) (i2 : Nat) (h : HH) : Prop := P_V_endUpAlone_69 fz i2 (u2 h 0 4 ((h 0 4) + (1 : Int32)))
def B_V_endUpAlone_44 (fz : Nat) (i2 : Nat) (h : HH) : HH := if (h i2 7) = 0 then (B_V_endUpAlone_59 fz i2 (u2 h i2 7 (h i2 6))) else (h)
def P_V_endUpAlone_44 (fz : Nat) (i2 : Nat) (h : HH) : Prop := ((h i2 7) = 0 → (P_V_endUpAlone_59 fz i2 (u2 h i2 7 (h i2 6)))) ∧ (¬ (h i2 7) = 0 → (True))
def B_V_endUpAlone_10 (fz : Nat) (x1 : Int32) (h : HH) : HH := B_V_endUpAlone_44 fz (B_V_nodeOf fz (h 22 (ix x1)) h) (u2 h (B_V_nodeOf fz (h 22 (ix x1)) h) 5 ((h (B_V_nodeOf fz (h 22 (ix x1)) h) 5) ||| ((1 : Int32) <<< ((h 23 (ix x1)) &&& 31))))
def P_V_endUpAlone_10 (fz : Nat) (x1 : Int32) (h : HH) : Prop := vp_in x1 301 ∧ (P_V_nodeOf fz (h 22 (ix x1)) h ∧ (vp_in x1 301 ∧ (P_V_endUpAlone_44 fz (B_V_nodeOf fz (h 22 (ix x1)) h) (u2 h (B_V_nodeOf fz (h 22 (ix x1)) h) 5 ((h (B_V_nodeOf fz (h 22 (ix x1)) h) 5) ||| ((1 : Int32) <<< ((h 23 (ix x1)) &&& 31)))))))
def B_V_endUpAlone (fz : Nat) (x1 : Int32) (h : HH) : HH := B_V_endUpAlone_10 fz x1 (u2 h 26 (ix x1) (3 : Int32))
def P_V_endUpAlone (fz : Nat) (x1 : Int32) (h : HH) : Prop := vp_in x1 301 ∧ (P_V_endUpAlone_10 fz x1 (u2 h 26 (ix x1) (3 : Int32)))
def B_V_write_154 (fz : Nat) (i4 : Nat) (y0 : Int32) (h : HH) : Int32 × HH := if (h 0 3) = 0 then ((y0, (B_V_endUpAlone fz y0 h))) else ((y0, (B_O_send fz i4 (1 : Int32) y0 (0 : Int32) h)))
def P_V_write_154 (fz : Nat) (i4 : Nat) (y0 : Int32) (h : HH) : Prop := ((h 0 3) = 0 → (P_V_endUpAlone fz y0 h ∧ (True))) ∧ (¬ (h 0 3) = 0 → (P_O_send fz i4 (1 : Int32) y0 (0 : Int32) h ∧ (True)))
def B_V_write_140 (fz : Nat) (x1 : Int32) (x2 : Int32) (x3 : Int32) (i4 : Nat) (y0 : Int32) (h : HH) : Int32 × HH := B_V_write_154 fz i4 (B_T_accept fz x1 x2 x3 y0 h).1 (B_T_accept fz x1 x2 x3 y0 h).2
def P_V_write_140 (fz : Nat) (x1 : Int32) (x2 : Int32) (x3 : Int32) (i4 : Nat) (y0 : Int32) (h : HH) : Prop := P_T_accept fz x1 x2 x3 y0 h ∧ (P_V_write_154 fz i4 (B_T_accept fz x1 x2 x3 y0 h).1 (B_T_accept fz x1 x2 x3 y0 h).2)
def B_V_write_129 (fz : Nat) (x1 : Int32) (x2 : Int32) (x3 : Int32) (i4 : Nat) (x6 : Int32) (h : HH) : Int32 × HH := B_V_write_140 fz x1 x2 x3 i4 (B_N_epochOfNextWrite fz i4 (B_V_hasBlock fz x6 x2 h) h).1 (B_N_epochOfNextWrite fz i4 (B_V_hasBlock fz x6 x2 h) h).2
def P_V_write_129 (fz : Nat) (x1 : Int32) (x2 : Int32) (x3 : Int32) (i4 : Nat) (x6 : Int32) (h : HH) : Prop := P_V_hasBlock fz x6 x2 h ∧ (P_N_epochOfNextWrite fz i4 (B_V_hasBlock fz x6 x2 h) h ∧ (P_V_write_140 fz x1 x2 x3 i4 (B_N_epochOfNextWrite fz i4 (B_V_hasBlock fz x6 x2 h) h).1 (B_N_epochOfNextWrite fz i4 (B_V_hasBlock fz x6 x2 h) h).2))
def B_V_write (fz : Nat) (x1 : Int32) (x2 : Int32) (x3 : Int32) (h : HH) : Int32 × HH := if (B_V_isNode fz x1 h) = 0 then (((-1 : Int32), h)) else (if (B_V_isBlock fz x2 h) = 0 then (((-1 : Int32), h)) else (if (h (B_V_nodeOf fz x1 h) 10) = 0 then (((-2 : Int32), h)) else (if (h (B_V_nodeOf fz x1 h) 11) = 0 then (((-3 : Int32), h)) else (if (B_T_isFull fz  h) = 0 then (if (B_T_countPending fz x1 h) < (8 : Int32) then (if (B_E_placeFor fz (B_V_nodeOf fz x1 h) (x2 / (4 : Int32)) (B_T_pendingBlocks fz x1 h) h) = (-1 : Int32) then (((-5 : Int32), h)) else (B_V_write_129 fz x1 x2 x3 (B_V_nodeOf fz x1 h) (B_T_pendingBlocks fz x1 h) (u2 (B_E_putInFront fz (B_V_nodeOf fz x1 h) (x2 / (4 : Int32)) (B_E_placeFor fz (B_V_nodeOf fz x1 h) (x2 / (4 : Int32)) (B_T_pendingBlocks fz x1 h) h) h) ((B_V_nodeOf fz x1 h) + 1) (ix x2) x3))) else (((-4 : Int32), h))) else (((-4 : Int32), h))))))
def P_V_write (fz : Nat) (x1 : Int32) (x2 : Int32) (x3 : Int32) (h : HH) : Prop := P_V_isNode fz x1 h ∧ (((B_V_isNode fz x1 h) = 0 → (True)) ∧ (¬ (B_V_isNode fz x1 h) = 0 → (P_V_isBlock fz x2 h ∧ (((B_V_isBlock fz x2 h) = 0 → (True)) ∧ (¬ (B_V_isBlock fz x2 h) = 0 → (P_V_nodeOf fz x1 h ∧ (((h (B_V_nodeOf fz x1 h) 10) = 0 → (True)) ∧ (¬ (h (B_V_nodeOf fz x1 h) 10) = 0 → (((h (B_V_nodeOf fz x1 h) 11) = 0 → (True)) ∧ (¬ (h (B_V_nodeOf fz x1 h) 11) = 0 → (P_T_isFull fz  h ∧ (((B_T_isFull fz  h) = 0 → (P_T_countPending fz x1 h ∧ (((B_T_countPending fz x1 h) < (8 : Int32) → (P_T_pendingBlocks fz x1 h ∧ (P_E_placeFor fz (B_V_nodeOf fz x1 h) (x2 / (4 : Int32)) (B_T_pendingBlocks fz x1 h) h ∧ (((B_E_placeFor fz (B_V_nodeOf fz x1 h) (x2 / (4 : Int32)) (B_T_pendingBlocks fz x1 h) h) = (-1 : Int32) → (True)) ∧ (¬ (B_E_placeFor fz (B_V_nodeOf fz x1 h) (x2 / (4 : Int32)) (B_T_pendingBlocks fz x1 h) h) = (-1 : Int32) → (P_E_putInFront fz (B_V_nodeOf fz x1 h) (x2 / (4 : Int32)) (B_E_placeFor fz (B_V_nodeOf fz x1 h) (x2 / (4 : Int32)) (B_T_pendingBlocks fz x1 h) h) h ∧ (vp_in x2 32 ∧ (P_V_write_129 fz x1 x2 x3 (B_V_nodeOf fz x1 h) (B_T_pendingBlocks fz x1 h) (u2 (B_E_putInFront fz (B_V_nodeOf fz x1 h) (x2 / (4 : Int32)) (B_E_placeFor fz (B_V_nodeOf fz x1 h) (x2 / (4 : Int32)) (B_T_pendingBlocks fz x1 h) h) h) ((B_V_nodeOf fz x1 h) + 1) (ix x2) x3))))))))) ∧ (¬ (B_T_countPending fz x1 h) < (8 : Int32) → (True))))) ∧ (¬ (B_T_isFull fz  h) = 0 → (True))))))))))))))
def B_V_barrier (fz : Nat) (x1 : Int32) (h : HH) : Int32 × HH := if (B_V_isNode fz x1 h) = 0 then (((0 : Int32), h)) else (if (h (B_V_nodeOf fz x1 h) 10) = 0 then (((0 : Int32), h)) else (if (h (B_V_nodeOf fz x1 h) 11) = 0 then (((0 : Int32), h)) else (((1 : Int32), (u2 h (B_V_nodeOf fz x1 h) 16 (1 : Int32))))))
def P_V_barrier (fz : Nat) (x1 : Int32) (h : HH) : Prop := P_V_isNode fz x1 h ∧ (((B_V_isNode fz x1 h) = 0 → (True)) ∧ (¬ (B_V_isNode fz x1 h) = 0 → (P_V_nodeOf fz x1 h ∧ (((h (B_V_nodeOf fz x1 h) 10) = 0 → (True)) ∧ (¬ (h (B_V_nodeOf fz x1 h) 10) = 0 → (((h (B_V_nodeOf fz x1 h) 11) = 0 → (True)) ∧ (¬ (h (B_V_nodeOf fz x1 h) 11) = 0 → (True))))))))
def B_O_kindOfFirst (fz : Nat) (i0 : Nat) (h : HH) : Int32 := (h (i0 + 5) (ix (h (i0 + 4) 3)))
def P_O_kindOfFirst (fz : Nat) (i0 : Nat) (h : HH) : Prop := vp_in (h (i0 + 4) 3) 25 ∧ (True)
def B_O_subjectOfFirst (fz : Nat) (i0 : Nat) (h : HH) : Int32 := (h (i0 + 6) (ix (h (i0 + 4) 3)))
def P_O_subjectOfFirst (fz : Nat) (i0 : Nat) (h : HH) : Prop := vp_in (h (i0 + 4) 3) 25 ∧ (True)
def B_O_valueOfFirst (fz : Nat) (i0 : Nat) (h : HH) : Int32 := (h (i0 + 7) (ix (h (i0 + 4) 3)))
def P_O_valueOfFirst (fz : Nat) (i0 : Nat) (h : HH) : Prop := vp_in (h (i0 + 4) 3) 25 ∧ (True)
def B_O_dropFirst_20 (fz : Nat) (i0 : Nat) (h : HH) : HH := (u2 h (i0 + 4) 4 ((h (i0 + 4) 4) - (1 : Int32)))
def P_O_dropFirst_20 (fz : Nat) (i0 : Nat) (h : HH) : Prop := True
def B_O_dropFirst (fz : Nat) (i0 : Nat) (h : HH) : HH := if (h (i0 + 4) 4) ≤ 0 then (h) else (B_O_dropFirst_20 fz i0 (u2 h (i0 + 4) 3 (((h (i0 + 4) 3) + (1 : Int32)) - ((h (i0 + 4) 3) + (1 : Int32)) / (25 : Int32) * (25 : Int32))))
def P_O_dropFirst (fz : Nat) (i0 : Nat) (h : HH) : Prop := ((h (i0 + 4) 4) ≤ 0 → (True)) ∧ (¬ (h (i0 + 4) 4) ≤ 0 → (P_O_dropFirst_20 fz i0 (u2 h (i0 + 4) 3 (((h (i0 + 4) 3) + (1 : Int32)) - ((h (i0 + 4) 3) + (1 : Int32)) / (25 : Int32) * (25 : Int32)))))
def B_V_peerOf (fz : Nat) (x1 : Int32) (h : HH) : Nat := if x1 = 0 then (11) else (1)
def P_V_peerOf (fz : Nat) (x1 : Int32) (h : HH) : Prop := (x1 = 0 → (True)) ∧ (¬ x1 = 0 → (True))
def B_L_add_19 (fz : Nat) (i0 : Nat) (h : HH) : HH := (u2 h (i0 + 8) 1 ((h (i0 + 8) 1) + (1 : Int32)))
def P_L_add_19 (fz : Nat) (i0 : Nat) (h : HH) : Prop := True
def B_L_add (fz : Nat) (i0 : Nat) (x1 : Int32) (h : HH) : HH := if (8 : Int32) ≤ (h (i0 + 8) 1) then (h) else (B_L_add_19 fz i0 (u2 h (i0 + 9) (ix (h (i0 + 8) 1)) x1))
def P_L_add (fz : Nat) (i0 : Nat) (x1 : Int32) (h : HH) : Prop := ((8 : Int32) ≤ (h (i0 + 8) 1) → (True)) ∧ (¬ (8 : Int32) ≤ (h (i0 + 8) 1) → (vp_in (h (i0 + 8) 1) 8 ∧ (P_L_add_19 fz i0 (u2 h (i0 + 9) (ix (h (i0 + 8) 1)) x1))))
def B_T_changeFates_3 (fz : Nat) : Nat → Int32 → Int32 → Int32 → Int32 → HH → HH
  | 0, _, _, _, _, h => h
  | fu + 1, x1, x2, x3, x4, h => if (h 21 5) < x4 then (h) else (if (h 22 (ix x4)) = x1 then (if (h 26 (ix x4)) = x2 then (B_T_changeFates_3 fz fu x1 x2 x3 (x4 + 1) (u2 h 26 (ix x4) x3)) else (B_T_changeFates_3 fz fu x1 x2 x3 (x4 + 1) h)) else (B_T_changeFates_3 fz fu x1 x2 x3 (x4 + 1) h))
def P_T_changeFates_3 (fz : Nat) : Nat → Int32 → Int32 → Int32 → Int32 → HH → Prop
  | 0, _, _, _, _, _ => False
  | fu + 1, x1, x2, x3, x4, h => ((h 21 5) < x4 → (True)) ∧ (¬ (h 21 5) < x4 → (vp_in x4 301 ∧ (((h 22 (ix x4)) = x1 → (vp_in x4 301 ∧ (((h 26 (ix x4)) = x2 → (vp_in x4 301 ∧ (P_T_changeFates_3 fz fu x1 x2 x3 (x4 + 1) (u2 h 26 (ix x4) x3)))) ∧ (¬ (h 26 (ix x4)) = x2 → (P_T_changeFates_3 fz fu x1 x2 x3 (x4 + 1) h))))) ∧ (¬ (h 22 (ix x4)) = x1 → (P_T_changeFates_3 fz fu x1 x2 x3 (x4 + 1) h)))))
def B_T_changeFates (fz : Nat) (x1 : Int32) (x2 : Int32) (x3 : Int32) (h : HH) : HH := B_T_changeFates_3 fz fz x1 x2 x3 (1 : Int32) h
def P_T_changeFates (fz : Nat) (x1 : Int32) (x2 : Int32) (x3 : Int32) (h : HH) : Prop := P_T_changeFates_3 fz fz x1 x2 x3 (1 : Int32) h
def B_V_end_28 (fz : Nat) (i1 : Nat) (h : HH) : HH := (B_O_send fz i1 (5 : Int32) (h i1 6) (0 : Int32) h)
def P_V_end_28 (fz : Nat) (i1 : Nat) (h : HH) : Prop := P_O_send fz i1 (5 : Int32) (h i1 6) (0 : Int32) h ∧ (True)
def B_V_end_15 (fz : Nat) (i1 : Nat) (h : HH) : HH := B_V_end_28 fz i1 (B_T_changeFates fz (h i1 0) (3 : Int32) (2 : Int32) h)
def P_V_end_15 (fz : Nat) (i1 : Nat) (h : HH) : Prop := P_T_changeFates fz (h i1 0) (3 : Int32) (2 : Int32) h ∧ (P_V_end_28 fz i1 (B_T_changeFates fz (h i1 0) (3 : Int32) (2 : Int32) h))
def B_V_end (fz : Nat) (i1 : Nat) (h : HH) : HH := B_V_end_15 fz i1 (u2 (u2 (u2 h i1 12 (0 : Int32)) i1 9 (0 : Int32)) i1 7 (0 : Int32))
def P_V_end (fz : Nat) (i1 : Nat) (h : HH) : Prop := P_V_end_15 fz i1 (u2 (u2 (u2 h i1 12 (0 : Int32)) i1 9 (0 : Int32)) i1 7 (0 : Int32))
def B_V_takeFromMap_14 (fz : Nat) (i1 : Nat) (h : HH) : HH := if (h i1 5) = 0 then ((B_V_end fz i1 h)) else (h)
def P_V_takeFromMap_14 (fz : Nat) (i1 : Nat) (h : HH) : Prop := ((h i1 5) = 0 → (P_V_end fz i1 h ∧ (True))) ∧ (¬ (h i1 5) = 0 → (True))
def B_V_takeFromMap (fz : Nat) (i1 : Nat) (x2 : Int32) (h : HH) : HH := B_V_takeFromMap_14 fz i1 (u2 h i1 5 ((h i1 5) &&& (((1 : Int32) <<< (x2 &&& 31)) ^^^ (-1 : Int32))))
def P_V_takeFromMap (fz : Nat) (i1 : Nat) (x2 : Int32) (h : HH) : Prop := P_V_takeFromMap_14 fz i1 (u2 h i1 5 ((h i1 5) &&& (((1 : Int32) <<< (x2 &&& 31)) ^^^ (-1 : Int32))))
def B_V_takeAck_10 (fz : Nat) (i1 : Nat) (x2 : Int32) (h : HH) : HH := if (h i1 12) = 0 then (h) else ((B_V_takeFromMap fz i1 (h 23 (ix x2)) h))
def P_V_takeAck_10 (fz : Nat) (i1 : Nat) (x2 : Int32) (h : HH) : Prop := ((h i1 12) = 0 → (True)) ∧ (¬ (h i1 12) = 0 → (vp_in x2 301 ∧ (P_V_takeFromMap fz i1 (h 23 (ix x2)) h ∧ (True))))
def B_V_takeAck (fz : Nat) (i1 : Nat) (x2 : Int32) (h : HH) : HH := B_V_takeAck_10 fz i1 x2 (u2 h 26 (ix x2) (2 : Int32))
def P_V_takeAck (fz : Nat) (i1 : Nat) (x2 : Int32) (h : HH) : Prop := vp_in x2 301 ∧ (P_V_takeAck_10 fz i1 x2 (u2 h 26 (ix x2) (2 : Int32)))
def B_N_takeFinish (fz : Nat) (i0 : Nat) (x1 : Int32) (h : HH) : HH := (u2 (u2 (u2 (u2 (u2 (u2 h i0 13 (0 : Int32)) i0 8 (0 : Int32)) i0 9 (0 : Int32)) i0 5 (0 : Int32)) i0 6 x1) i0 7 (0 : Int32))
def P_N_takeFinish (fz : Nat) (i0 : Nat) (x1 : Int32) (h : HH) : Prop := True
def B_V_arrive_64 (fz : Nat) (i1 : Nat) (x3 : Int32) (h : HH) : HH := (B_O_send fz i1 (4 : Int32) x3 (0 : Int32) h)
def P_V_arrive_64 (fz : Nat) (i1 : Nat) (x3 : Int32) (h : HH) : Prop := P_O_send fz i1 (4 : Int32) x3 (0 : Int32) h ∧ (True)
def B_V_arrive_91 (fz : Nat) (i1 : Nat) (x3 : Int32) (h : HH) : HH := (B_V_takeFromMap fz i1 x3 h)
def P_V_arrive_91 (fz : Nat) (i1 : Nat) (x3 : Int32) (h : HH) : Prop := P_V_takeFromMap fz i1 x3 h ∧ (True)
def B_V_arrive (fz : Nat) (i1 : Nat) (x2 : Int32) (x3 : Int32) (x4 : Int32) (h : HH) : HH := if x2 = (1 : Int32) then ((B_L_add fz i1 x3 h)) else (if x2 = (2 : Int32) then ((B_V_takeAck fz i1 x3 h)) else (if x2 = (3 : Int32) then (B_V_arrive_64 fz i1 x3 (u2 h (i1 + 1) (ix x3) x4)) else (if x2 = (4 : Int32) then (B_V_arrive_91 fz i1 x3 (u2 h i1 14 ((h i1 14) &&& (((1 : Int32) <<< (x3 &&& 31)) ^^^ (-1 : Int32))))) else (if x2 = (5 : Int32) then ((B_N_takeFinish fz i1 x3 h)) else (h)))))
def P_V_arrive (fz : Nat) (i1 : Nat) (x2 : Int32) (x3 : Int32) (x4 : Int32) (h : HH) : Prop := (x2 = (1 : Int32) → (P_L_add fz i1 x3 h ∧ (True))) ∧ (¬ x2 = (1 : Int32) → ((x2 = (2 : Int32) → (P_V_takeAck fz i1 x3 h ∧ (True))) ∧ (¬ x2 = (2 : Int32) → ((x2 = (3 : Int32) → (vp_in x3 32 ∧ (P_V_arrive_64 fz i1 x3 (u2 h (i1 + 1) (ix x3) x4)))) ∧ (¬ x2 = (3 : Int32) → ((x2 = (4 : Int32) → (P_V_arrive_91 fz i1 x3 (u2 h i1 14 ((h i1 14) &&& (((1 : Int32) <<< (x3 &&& 31)) ^^^ (-1 : Int32)))))) ∧ (¬ x2 = (4 : Int32) → ((x2 = (5 : Int32) → (P_N_takeFinish fz i1 x3 h ∧ (True))) ∧ (¬ x2 = (5 : Int32) → (True))))))))))
def B_V_deliver_48 (fz : Nat) (x1 : Int32) (x3 : Int32) (x4 : Int32) (x5 : Int32) (h : HH) : Int32 × HH := (x3, (B_V_arrive fz (B_V_peerOf fz x1 h) x3 x4 x5 h))
def P_V_deliver_48 (fz : Nat) (x1 : Int32) (x3 : Int32) (x4 : Int32) (x5 : Int32) (h : HH) : Prop := P_V_peerOf fz x1 h ∧ (P_V_arrive fz (B_V_peerOf fz x1 h) x3 x4 x5 h ∧ (True))
def B_V_deliver (fz : Nat) (x1 : Int32) (h : HH) : Int32 × HH := if (B_V_isNode fz x1 h) = 0 then (((0 : Int32), h)) else (if (h ((B_V_nodeOf fz x1 h) + 4) 4) = 0 then (((0 : Int32), h)) else (B_V_deliver_48 fz x1 (B_O_kindOfFirst fz (B_V_nodeOf fz x1 h) h) (B_O_subjectOfFirst fz (B_V_nodeOf fz x1 h) h) (B_O_valueOfFirst fz (B_V_nodeOf fz x1 h) h) (B_O_dropFirst fz (B_V_nodeOf fz x1 h) h)))
def P_V_deliver (fz : Nat) (x1 : Int32) (h : HH) : Prop := P_V_isNode fz x1 h ∧ (((B_V_isNode fz x1 h) = 0 → (True)) ∧ (¬ (B_V_isNode fz x1 h) = 0 → (P_V_nodeOf fz x1 h ∧ (((h ((B_V_nodeOf fz x1 h) + 4) 4) = 0 → (True)) ∧ (¬ (h ((B_V_nodeOf fz x1 h) + 4) 4) = 0 → (P_O_kindOfFirst fz (B_V_nodeOf fz x1 h) h ∧ (P_O_subjectOfFirst fz (B_V_nodeOf fz x1 h) h ∧ (P_O_valueOfFirst fz (B_V_nodeOf fz x1 h) h ∧ (P_O_dropFirst fz (B_V_nodeOf fz x1 h) h ∧ (P_V_deliver_48 fz x1 (B_O_kindOfFirst fz (B_V_nodeOf fz x1 h) h) (B_O_subjectOfFirst fz (B_V_nodeOf fz x1 h) h) (B_O_valueOfFirst fz (B_V_nodeOf fz x1 h) h) (B_O_dropFirst fz (B_V_nodeOf fz x1 h) h)))))))))))
def B_L_numberAt (fz : Nat) (i0 : Nat) (x1 : Int32) (h : HH) : Int32 := if x1 < 0 then ((0 : Int32)) else (if (h (i0 + 8) 1) ≤ x1 then ((0 : Int32)) else ((h (i0 + 9) (ix x1))))
def P_L_numberAt (fz : Nat) (i0 : Nat) (x1 : Int32) (h : HH) : Prop := (x1 < 0 → (True)) ∧ (¬ x1 < 0 → (((h (i0 + 8) 1) ≤ x1 → (True)) ∧ (¬ (h (i0 + 8) 1) ≤ x1 → (vp_in x1 8 ∧ (True)))))
def B_L_remove_15 (fz : Nat) : Nat → Nat → Int32 → HH → HH
  | 0, _, _, h => h
  | fu + 1, i0, x2, h => if ((h (i0 + 8) 1) - (1 : Int32)) ≤ x2 then ((u2 h (i0 + 8) 1 ((h (i0 + 8) 1) - (1 : Int32)))) else (B_L_remove_15 fz fu i0 (x2 + 1) (u2 h (i0 + 9) (ix x2) (h (i0 + 9) (ix (x2 + (1 : Int32))))))
def P_L_remove_15 (fz : Nat) : Nat → Nat → Int32 → HH → Prop
  | 0, _, _, _ => False
  | fu + 1, i0, x2, h => (((h (i0 + 8) 1) - (1 : Int32)) ≤ x2 → (True)) ∧ (¬ ((h (i0 + 8) 1) - (1 : Int32)) ≤ x2 → (vp_in (x2 + (1 : Int32)) 8 ∧ (vp_in x2 8 ∧ (P_L_remove_15 fz fu i0 (x2 + 1) (u2 h (i0 + 9) (ix x2) (h (i0 + 9) (ix (x2 + (1 : Int32)))))))))
def B_L_remove (fz : Nat) (i0 : Nat) (x1 : Int32) (h : HH) : HH := if x1 < 0 then (h) else (if x1 < (h (i0 + 8) 1) then (B_L_remove_15 fz fz i0 x1 h) else (h))
def P_L_remove (fz : Nat) (i0 : Nat) (x1 : Int32) (h : HH) : Prop := (x1 < 0 → (True)) ∧ (¬ x1 < 0 → ((x1 < (h (i0 + 8) 1) → (P_L_remove_15 fz fz i0 x1 h)) ∧ (¬ x1 < (h (i0 + 8) 1) → (True))))
def B_V_store_104 (fz : Nat) (i3 : Nat) (x5 : Int32) (h : HH) : Int32 × HH := (x5, (B_O_send fz i3 (2 : Int32) x5 (0 : Int32) h))
def P_V_store_104 (fz : Nat) (i3 : Nat) (x5 : Int32) (h : HH) : Prop := P_O_send fz i3 (2 : Int32) x5 (0 : Int32) h ∧ (True)
def B_V_store_79 (fz : Nat) (i3 : Nat) (x5 : Int32) (h : HH) : Int32 × HH := B_V_store_104 fz i3 x5 (u2 h (i3 + 1) (ix (h 23 (ix x5))) (h 24 (ix x5)))
def P_V_store_79 (fz : Nat) (i3 : Nat) (x5 : Int32) (h : HH) : Prop := vp_in x5 301 ∧ (vp_in x5 301 ∧ (vp_in (h 23 (ix x5)) 32 ∧ (P_V_store_104 fz i3 x5 (u2 h (i3 + 1) (ix (h 23 (ix x5))) (h 24 (ix x5))))))
def B_V_store (fz : Nat) (x1 : Int32) (x2 : Int32) (h : HH) : Int32 × HH := if (B_V_isNode fz x1 h) = 0 then (((0 : Int32), h)) else (if x2 < 0 then (((0 : Int32), h)) else (if x2 < (h ((B_V_nodeOf fz x1 h) + 8) 1) then (if (h 25 (ix (B_L_numberAt fz (B_V_nodeOf fz x1 h) x2 h))) = (h 25 (ix (B_L_numberAt fz (B_V_nodeOf fz x1 h) (0 : Int32) h))) then (B_V_store_79 fz (B_V_nodeOf fz x1 h) (B_L_numberAt fz (B_V_nodeOf fz x1 h) x2 h) (B_L_remove fz (B_V_nodeOf fz x1 h) x2 h)) else (((0 : Int32), h))) else (((0 : Int32), h))))
def P_V_store (fz : Nat) (x1 : Int32) (x2 : Int32) (h : HH) : Prop := P_V_isNode fz x1 h ∧ (((B_V_isNode fz x1 h) = 0 → (True)) ∧ (¬ (B_V_isNode fz x1 h) = 0 → (P_V_nodeOf fz x1 h ∧ ((x2 < 0 → (True)) ∧ (¬ x2 < 0 → ((x2 < (h ((B_V_nodeOf fz x1 h) + 8) 1) → (P_L_numberAt fz (B_V_nodeOf fz x1 h) x2 h ∧ (vp_in (B_L_numberAt fz (B_V_nodeOf fz x1 h) x2 h) 301 ∧ (P_L_numberAt fz (B_V_nodeOf fz x1 h) (0 : Int32) h ∧ (vp_in (B_L_numberAt fz (B_V_nodeOf fz x1 h) (0 : Int32) h) 301 ∧ (((h 25 (ix (B_L_numberAt fz (B_V_nodeOf fz x1 h) x2 h))) = (h 25 (ix (B_L_numberAt fz (B_V_nodeOf fz x1 h) (0 : Int32) h))) → (P_L_remove fz (B_V_nodeOf fz x1 h) x2 h ∧ (P_V_store_79 fz (B_V_nodeOf fz x1 h) (B_L_numberAt fz (B_V_nodeOf fz x1 h) x2 h) (B_L_remove fz (B_V_nodeOf fz x1 h) x2 h)))) ∧ (¬ (h 25 (ix (B_L_numberAt fz (B_V_nodeOf fz x1 h) x2 h))) = (h 25 (ix (B_L_numberAt fz (B_V_nodeOf fz x1 h) (0 : Int32) h))) → (True)))))))) ∧ (¬ x2 < (h ((B_V_nodeOf fz x1 h) + 8) 1) → (True))))))))
def B_I_bitCount (fz : Nat) (x0 : Int32) (h : HH) : Int32 := ((((((((x0 - ((((x0).toUInt32 >>> (((1 : Int32)).toUInt32 &&& Int32.toUInt32 31)).toInt32) &&& (1431655765 : Int32))) &&& (858993459 : Int32)) + (((((x0 - ((((x0).toUInt32 >>> (((1 : Int32)).toUInt32 &&& Int32.toUInt32 31)).toInt32) &&& (1431655765 : Int32)))).toUInt32 >>> (((2 : Int32)).toUInt32 &&& Int32.toUInt32 31)).toInt32) &&& (858993459 : Int32))) + ((((((x0 - ((((x0).toUInt32 >>> (((1 : Int32)).toUInt32 &&& Int32.toUInt32 31)).toInt32) &&& (1431655765 : Int32))) &&& (858993459 : Int32)) + (((((x0 - ((((x0).toUInt32 >>> (((1 : Int32)).toUInt32 &&& Int32.toUInt32 31)).toInt32) &&& (1431655765 : Int32)))).toUInt32 >>> (((2 : Int32)).toUInt32 &&& Int32.toUInt32 31)).toInt32) &&& (858993459 : Int32)))).toUInt32 >>> (((4 : Int32)).toUInt32 &&& Int32.toUInt32 31)).toInt32)) &&& (252645135 : Int32)) + ((((((((x0 - ((((x0).toUInt32 >>> (((1 : Int32)).toUInt32 &&& Int32.toUInt32 31)).toInt32) &&& (1431655765 : Int32))) &&& (858993459 : Int32)) + (((((x0 - ((((x0).toUInt32 >>> (((1 : Int32)).toUInt32 &&& Int32.toUInt32 31)).toInt32) &&& (1431655765 : Int32)))).toUInt32 >>> (((2 : Int32)).toUInt32 &&& Int32.toUInt32 31)).toInt32) &&& (858993459 : Int32))) + ((((((x0 - ((((x0).toUInt32 >>> (((1 : Int32)).toUInt32 &&& Int32.toUInt32 31)).toInt32) &&& (1431655765 : Int32))) &&& (858993459 : Int32)) + (((((x0 - ((((x0).toUInt32 >>> (((1 : Int32)).toUInt32 &&& Int32.toUInt32 31)).toInt32) &&& (1431655765 : Int32)))).toUInt32 >>> (((2 : Int32)).toUInt32 &&& Int32.toUInt32 31)).toInt32) &&& (858993459 : Int32)))).toUInt32 >>> (((4 : Int32)).toUInt32 &&& Int32.toUInt32 31)).toInt32)) &&& (252645135 : Int32))).toUInt32 >>> (((8 : Int32)).toUInt32 &&& Int32.toUInt32 31)).toInt32)) + (((((((((x0 - ((((x0).toUInt32 >>> (((1 : Int32)).toUInt32 &&& Int32.toUInt32 31)).toInt32) &&& (1431655765 : Int32))) &&& (858993459 : Int32)) + (((((x0 - ((((x0).toUInt32 >>> (((1 : Int32)).toUInt32 &&& Int32.toUInt32 31)).toInt32) &&& (1431655765 : Int32)))).toUInt32 >>> (((2 : Int32)).toUInt32 &&& Int32.toUInt32 31)).toInt32) &&& (858993459 : Int32))) + ((((((x0 - ((((x0).toUInt32 >>> (((1 : Int32)).toUInt32 &&& Int32.toUInt32 31)).toInt32) &&& (1431655765 : Int32))) &&& (858993459 : Int32)) + (((((x0 - ((((x0).toUInt32 >>> (((1 : Int32)).toUInt32 &&& Int32.toUInt32 31)).toInt32) &&& (1431655765 : Int32)))).toUInt32 >>> (((2 : Int32)).toUInt32 &&& Int32.toUInt32 31)).toInt32) &&& (858993459 : Int32)))).toUInt32 >>> (((4 : Int32)).toUInt32 &&& Int32.toUInt32 31)).toInt32)) &&& (252645135 : Int32)) + ((((((((x0 - ((((x0).toUInt32 >>> (((1 : Int32)).toUInt32 &&& Int32.toUInt32 31)).toInt32) &&& (1431655765 : Int32))) &&& (858993459 : Int32)) + (((((x0 - ((((x0).toUInt32 >>> (((1 : Int32)).toUInt32 &&& Int32.toUInt32 31)).toInt32) &&& (1431655765 : Int32)))).toUInt32 >>> (((2 : Int32)).toUInt32 &&& Int32.toUInt32 31)).toInt32) &&& (858993459 : Int32))) + ((((((x0 - ((((x0).toUInt32 >>> (((1 : Int32)).toUInt32 &&& Int32.toUInt32 31)).toInt32) &&& (1431655765 : Int32))) &&& (858993459 : Int32)) + (((((x0 - ((((x0).toUInt32 >>> (((1 : Int32)).toUInt32 &&& Int32.toUInt32 31)).toInt32) &&& (1431655765 : Int32)))).toUInt32 >>> (((2 : Int32)).toUInt32 &&& Int32.toUInt32 31)).toInt32) &&& (858993459 : Int32)))).toUInt32 >>> (((4 : Int32)).toUInt32 &&& Int32.toUInt32 31)).toInt32)) &&& (252645135 : Int32))).toUInt32 >>> (((8 : Int32)).toUInt32 &&& Int32.toUInt32 31)).toInt32))).toUInt32 >>> (((16 : Int32)).toUInt32 &&& Int32.toUInt32 31)).toInt32)) &&& (63 : Int32))
def P_I_bitCount (fz : Nat) (x0 : Int32) (h : HH) : Prop := True
def B_V_leastBlock_2 (fz : Nat) : Nat → Int32 → Int32 → HH → Int32
  | 0, _, _, _ => 0
  | fu + 1, x0, x1, h => if (32 : Int32) ≤ x1 then ((-1 : Int32)) else (if (B_V_hasBlock fz x0 x1 h) = 0 then (B_V_leastBlock_2 fz fu x0 (x1 + 1) h) else (x1))
def P_V_leastBlock_2 (fz : Nat) : Nat → Int32 → Int32 → HH → Prop
  | 0, _, _, _ => False
  | fu + 1, x0, x1, h => ((32 : Int32) ≤ x1 → (True)) ∧ (¬ (32 : Int32) ≤ x1 → (P_V_hasBlock fz x0 x1 h ∧ (((B_V_hasBlock fz x0 x1 h) = 0 → (P_V_leastBlock_2 fz fu x0 (x1 + 1) h)) ∧ (¬ (B_V_hasBlock fz x0 x1 h) = 0 → (True)))))
def B_V_leastBlock (fz : Nat) (x0 : Int32) (h : HH) : Int32 := B_V_leastBlock_2 fz fz x0 (0 : Int32) h
def P_V_leastBlock (fz : Nat) (x0 : Int32) (h : HH) : Prop := P_V_leastBlock_2 fz fz x0 (0 : Int32) h
def B_V_copy_80 (fz : Nat) (i2 : Nat) (x3 : Int32) (h : HH) : Int32 × HH := (x3, (B_O_send fz i2 (3 : Int32) x3 (h (i2 + 1) (ix x3)) h))
def P_V_copy_80 (fz : Nat) (i2 : Nat) (x3 : Int32) (h : HH) : Prop := vp_in x3 32 ∧ (P_O_send fz i2 (3 : Int32) x3 (h (i2 + 1) (ix x3)) h ∧ (True))
def B_V_copy (fz : Nat) (x1 : Int32) (h : HH) : Int32 × HH := if (B_V_isNode fz x1 h) = 0 then (((-1 : Int32), h)) else (if (h (B_V_nodeOf fz x1 h) 12) = 0 then (((-1 : Int32), h)) else (if (B_I_bitCount fz (h (B_V_nodeOf fz x1 h) 14) h) < (4 : Int32) then (if (B_V_leastBlock fz (((h (B_V_nodeOf fz x1 h) 5) &&& ((h (B_V_nodeOf fz x1 h) 14) ^^^ (-1 : Int32))) &&& ((B_T_pendingBlocks fz x1 h) ^^^ (-1 : Int32))) h) = (-1 : Int32) then (((-1 : Int32), h)) else (B_V_copy_80 fz (B_V_nodeOf fz x1 h) (B_V_leastBlock fz (((h (B_V_nodeOf fz x1 h) 5) &&& ((h (B_V_nodeOf fz x1 h) 14) ^^^ (-1 : Int32))) &&& ((B_T_pendingBlocks fz x1 h) ^^^ (-1 : Int32))) h) (u2 h (B_V_nodeOf fz x1 h) 14 ((h (B_V_nodeOf fz x1 h) 14) ||| ((1 : Int32) <<< ((B_V_leastBlock fz (((h (B_V_nodeOf fz x1 h) 5) &&& ((h (B_V_nodeOf fz x1 h) 14) ^^^ (-1 : Int32))) &&& ((B_T_pendingBlocks fz x1 h) ^^^ (-1 : Int32))) h) &&& 31)))))) else (((-1 : Int32), h))))
def P_V_copy (fz : Nat) (x1 : Int32) (h : HH) : Prop := P_V_isNode fz x1 h ∧ (((B_V_isNode fz x1 h) = 0 → (True)) ∧ (¬ (B_V_isNode fz x1 h) = 0 → (P_V_nodeOf fz x1 h ∧ (((h (B_V_nodeOf fz x1 h) 12) = 0 → (True)) ∧ (¬ (h (B_V_nodeOf fz x1 h) 12) = 0 → (P_I_bitCount fz (h (B_V_nodeOf fz x1 h) 14) h ∧ (((B_I_bitCount fz (h (B_V_nodeOf fz x1 h) 14) h) < (4 : Int32) → (P_T_pendingBlocks fz x1 h ∧ (P_V_leastBlock fz (((h (B_V_nodeOf fz x1 h) 5) &&& ((h (B_V_nodeOf fz x1 h) 14) ^^^ (-1 : Int32))) &&& ((B_T_pendingBlocks fz x1 h) ^^^ (-1 : Int32))) h ∧ (((B_V_leastBlock fz (((h (B_V_nodeOf fz x1 h) 5) &&& ((h (B_V_nodeOf fz x1 h) 14) ^^^ (-1 : Int32))) &&& ((B_T_pendingBlocks fz x1 h) ^^^ (-1 : Int32))) h) = (-1 : Int32) → (True)) ∧ (¬ (B_V_leastBlock fz (((h (B_V_nodeOf fz x1 h) 5) &&& ((h (B_V_nodeOf fz x1 h) 14) ^^^ (-1 : Int32))) &&& ((B_T_pendingBlocks fz x1 h) ^^^ (-1 : Int32))) h) = (-1 : Int32) → (P_V_copy_80 fz (B_V_nodeOf fz x1 h) (B_V_leastBlock fz (((h (B_V_nodeOf fz x1 h) 5) &&& ((h (B_V_nodeOf fz x1 h) 14) ^^^ (-1 : Int32))) &&& ((B_T_pendingBlocks fz x1 h) ^^^ (-1 : Int32))) h) (u2 h (B_V_nodeOf fz x1 h) 14 ((h (B_V_nodeOf fz x1 h) 14) ||| ((1 : Int32) <<< ((B_V_leastBlock fz (((h (B_V_nodeOf fz x1 h) 5) &&& ((h (B_V_nodeOf fz x1 h) 14) ^^^ (-1 : Int32))) &&& ((B_T_pendingBlocks fz x1 h) ^^^ (-1 : Int32))) h) &&& 31)))))))))) ∧ (¬ (B_I_bitCount fz (h (B_V_nodeOf fz x1 h) 14) h) < (4 : Int32) → (True)))))))))
def B_V_wentDifferentWays (fz : Nat)  (h : HH) : Int32 := if (h 1 8) = 0 then (if (h 11 8) = 0 then (if (h 1 6) = (h 11 6) then ((0 : Int32)) else (if (h 1 7) = (h 11 6) then ((0 : Int32)) else (if (h 11 7) = (h 1 6) then ((0 : Int32)) else ((1 : Int32))))) else ((0 : Int32))) else ((0 : Int32))
def P_V_wentDifferentWays (fz : Nat)  (h : HH) : Prop := ((h 1 8) = 0 → (((h 11 8) = 0 → (((h 1 6) = (h 11 6) → (True)) ∧ (¬ (h 1 6) = (h 11 6) → (((h 1 7) = (h 11 6) → (True)) ∧ (¬ (h 1 7) = (h 11 6) → (((h 11 7) = (h 1 6) → (True)) ∧ (¬ (h 11 7) = (h 1 6) → (True)))))))) ∧ (¬ (h 11 8) = 0 → (True)))) ∧ (¬ (h 1 8) = 0 → (True))
def B_V_chooseSource_20 (fz : Nat)  (h : HH) : Int32 := if (h 11 8) = 0 then ((1 : Int32)) else ((0 : Int32))
def P_V_chooseSource_20 (fz : Nat)  (h : HH) : Prop := ((h 11 8) = 0 → (True)) ∧ (¬ (h 11 8) = 0 → (True))
def B_V_chooseSource_98 (fz : Nat)  (h : HH) : Int32 := if (h 1 11) = (h 11 11) then (if (h 1 9) = 0 then ((1 : Int32)) else ((0 : Int32))) else (if (h 1 11) = 0 then ((1 : Int32)) else ((0 : Int32)))
def P_V_chooseSource_98 (fz : Nat)  (h : HH) : Prop := ((h 1 11) = (h 11 11) → (((h 1 9) = 0 → (True)) ∧ (¬ (h 1 9) = 0 → (True)))) ∧ (¬ (h 1 11) = (h 11 11) → (((h 1 11) = 0 → (True)) ∧ (¬ (h 1 11) = 0 → (True))))
def B_V_chooseSource (fz : Nat)  (h : HH) : Int32 := if (h 1 8) = 0 then (if (h 11 8) = 0 then (if (h 1 6) = (h 11 6) then (if (h 1 9) = 0 then (if (h 11 9) = 0 then ((-1 : Int32)) else (B_V_chooseSource_98 fz  h)) else (B_V_chooseSource_98 fz  h)) else (if (h 1 7) = (h 11 6) then ((0 : Int32)) else ((1 : Int32)))) else (B_V_chooseSource_20 fz  h)) else (B_V_chooseSource_20 fz  h)
def P_V_chooseSource (fz : Nat)  (h : HH) : Prop := ((h 1 8) = 0 → (((h 11 8) = 0 → (((h 1 6) = (h 11 6) → (((h 1 9) = 0 → (((h 11 9) = 0 → (True)) ∧ (¬ (h 11 9) = 0 → (P_V_chooseSource_98 fz  h)))) ∧ (¬ (h 1 9) = 0 → (P_V_chooseSource_98 fz  h)))) ∧ (¬ (h 1 6) = (h 11 6) → (((h 1 7) = (h 11 6) → (True)) ∧ (¬ (h 1 7) = (h 11 6) → (True)))))) ∧ (¬ (h 11 8) = 0 → (P_V_chooseSource_20 fz  h)))) ∧ (¬ (h 1 8) = 0 → (P_V_chooseSource_20 fz  h))
def B_V_beginUpdate_71 (fz : Nat) (i1 : Nat) (h : HH) : HH := if (h i1 5) = 0 then ((B_V_end fz i1 h)) else (h)
def P_V_beginUpdate_71 (fz : Nat) (i1 : Nat) (h : HH) : Prop := ((h i1 5) = 0 → (P_V_end fz i1 h ∧ (True))) ∧ (¬ (h i1 5) = 0 → (True))
def B_V_beginUpdate_53 (fz : Nat) (i1 : Nat) (i2 : Nat) (j0 : Nat) (y1 : Int32) (h : HH) : HH := B_V_beginUpdate_71 fz i1 (u2 (u2 (u2 (u2 h j0 5 y1) i1 12 (1 : Int32)) i2 13 (1 : Int32)) i2 8 (1 : Int32))
def P_V_beginUpdate_53 (fz : Nat) (i1 : Nat) (i2 : Nat) (j0 : Nat) (y1 : Int32) (h : HH) : Prop := P_V_beginUpdate_71 fz i1 (u2 (u2 (u2 (u2 h j0 5 y1) i1 12 (1 : Int32)) i2 13 (1 : Int32)) i2 8 (1 : Int32))
def B_V_beginUpdate_34 (fz : Nat) (i1 : Nat) (i2 : Nat) (y0 : Int32) (h : HH) : HH := if y0 = 0 then (B_V_beginUpdate_53 fz i1 i2 i1 (-1 : Int32) h) else (B_V_beginUpdate_53 fz i1 i2 i1 ((h i1 5) ||| (h i2 5)) h)
def P_V_beginUpdate_34 (fz : Nat) (i1 : Nat) (i2 : Nat) (y0 : Int32) (h : HH) : Prop := (y0 = 0 → (P_V_beginUpdate_53 fz i1 i2 i1 (-1 : Int32) h)) ∧ (¬ y0 = 0 → (P_V_beginUpdate_53 fz i1 i2 i1 ((h i1 5) ||| (h i2 5)) h))
def B_V_beginUpdate_33 (fz : Nat) (i1 : Nat) (i2 : Nat) (h : HH) : HH := B_V_beginUpdate_34 fz i1 i2 (0 : Int32) h
def P_V_beginUpdate_33 (fz : Nat) (i1 : Nat) (i2 : Nat) (h : HH) : Prop := P_V_beginUpdate_34 fz i1 i2 (0 : Int32) h
def B_V_beginUpdate_29 (fz : Nat) (i1 : Nat) (i2 : Nat) (h : HH) : HH := B_V_beginUpdate_34 fz i1 i2 (1 : Int32) h
def P_V_beginUpdate_29 (fz : Nat) (i1 : Nat) (i2 : Nat) (h : HH) : Prop := P_V_beginUpdate_34 fz i1 i2 (1 : Int32) h
def B_V_beginUpdate (fz : Nat) (i1 : Nat) (i2 : Nat) (h : HH) : HH := if (h i2 6) = 0 then (B_V_beginUpdate_33 fz i1 i2 h) else (if (h i2 6) = (h i1 6) then (B_V_beginUpdate_29 fz i1 i2 h) else (if (h i2 6) = (h i1 7) then (B_V_beginUpdate_29 fz i1 i2 h) else (B_V_beginUpdate_33 fz i1 i2 h)))
def P_V_beginUpdate (fz : Nat) (i1 : Nat) (i2 : Nat) (h : HH) : Prop := ((h i2 6) = 0 → (P_V_beginUpdate_33 fz i1 i2 h)) ∧ (¬ (h i2 6) = 0 → (((h i2 6) = (h i1 6) → (P_V_beginUpdate_29 fz i1 i2 h)) ∧ (¬ (h i2 6) = (h i1 6) → (((h i2 6) = (h i1 7) → (P_V_beginUpdate_29 fz i1 i2 h)) ∧ (¬ (h i2 6) = (h i1 7) → (P_V_beginUpdate_33 fz i1 i2 h))))))
def B_V_connect_102 (fz : Nat) (x1 : Int32) (h : HH) : Int32 × HH := (((1 : Int32) + x1), (B_V_beginUpdate fz (B_V_nodeOf fz x1 h) (B_V_peerOf fz x1 h) h))
def P_V_connect_102 (fz : Nat) (x1 : Int32) (h : HH) : Prop := P_V_nodeOf fz x1 h ∧ (P_V_peerOf fz x1 h ∧ (P_V_beginUpdate fz (B_V_nodeOf fz x1 h) (B_V_peerOf fz x1 h) h ∧ (True)))
def B_V_connect_56 (fz : Nat)  (h : HH) : Int32 × HH := if (B_V_wentDifferentWays fz  h) = 0 then (if (B_V_chooseSource fz  h) = (-1 : Int32) then (((0 : Int32), (u2 h 0 3 (1 : Int32)))) else (if (h (B_V_peerOf fz (B_V_chooseSource fz  h) h) 11) = 0 then (B_V_connect_102 fz (B_V_chooseSource fz  h) (u2 h 0 3 (1 : Int32))) else (((-10 : Int32), h)))) else (((-8 : Int32), h))
def P_V_connect_56 (fz : Nat)  (h : HH) : Prop := P_V_wentDifferentWays fz  h ∧ (((B_V_wentDifferentWays fz  h) = 0 → (P_V_chooseSource fz  h ∧ (((B_V_chooseSource fz  h) = (-1 : Int32) → (True)) ∧ (¬ (B_V_chooseSource fz  h) = (-1 : Int32) → (P_V_peerOf fz (B_V_chooseSource fz  h) h ∧ (((h (B_V_peerOf fz (B_V_chooseSource fz  h) h) 11) = 0 → (P_V_connect_102 fz (B_V_chooseSource fz  h) (u2 h 0 3 (1 : Int32)))) ∧ (¬ (h (B_V_peerOf fz (B_V_chooseSource fz  h) h) 11) = 0 → (True)))))))) ∧ (¬ (B_V_wentDifferentWays fz  h) = 0 → (True)))
def B_V_connect (fz : Nat)  (h : HH) : Int32 × HH := if (h 1 10) = 0 then (((-2 : Int32), h)) else (if (h 11 10) = 0 then (((-2 : Int32), h)) else (if (h 0 3) = 0 then (if (h 1 11) = 0 then (B_V_connect_56 fz  h) else (if (h 11 11) = 0 then (B_V_connect_56 fz  h) else (((-7 : Int32), h)))) else (((-9 : Int32), h))))
def P_V_connect (fz : Nat)  (h : HH) : Prop := ((h 1 10) = 0 → (True)) ∧ (¬ (h 1 10) = 0 → (((h 11 10) = 0 → (True)) ∧ (¬ (h 11 10) = 0 → (((h 0 3) = 0 → (((h 1 11) = 0 → (P_V_connect_56 fz  h)) ∧ (¬ (h 1 11) = 0 → (((h 11 11) = 0 → (P_V_connect_56 fz  h)) ∧ (¬ (h 11 11) = 0 → (True)))))) ∧ (¬ (h 0 3) = 0 → (True))))))
def B_N_leaveLink (fz : Nat) (i0 : Nat) (h : HH) : HH := (u2 (u2 (u2 (u2 (u2 h (i0 + 4) 4 (0 : Int32)) (i0 + 8) 1 (0 : Int32)) i0 14 (0 : Int32)) i0 12 (0 : Int32)) i0 13 (0 : Int32))
def P_N_leaveLink (fz : Nat) (i0 : Nat) (h : HH) : Prop := True
def B_V_breakLink_21 (fz : Nat) : Nat → Int32 → HH → HH
  | 0, _, h => h
  | fu + 1, x1, h => if (h 21 5) < x1 then (h) else (if (h 26 (ix x1)) = (1 : Int32) then (B_V_breakLink_21 fz fu (x1 + 1) (B_V_endUpAlone fz x1 h)) else (B_V_breakLink_21 fz fu (x1 + 1) h))
def P_V_breakLink_21 (fz : Nat) : Nat → Int32 → HH → Prop
  | 0, _, _ => False
  | fu + 1, x1, h => ((h 21 5) < x1 → (True)) ∧ (¬ (h 21 5) < x1 → (vp_in x1 301 ∧ (((h 26 (ix x1)) = (1 : Int32) → (P_V_endUpAlone fz x1 h ∧ (P_V_breakLink_21 fz fu (x1 + 1) (B_V_endUpAlone fz x1 h)))) ∧ (¬ (h 26 (ix x1)) = (1 : Int32) → (P_V_breakLink_21 fz fu (x1 + 1) h)))))
def B_V_breakLink_19 (fz : Nat)  (h : HH) : HH := B_V_breakLink_21 fz fz (1 : Int32) h
def P_V_breakLink_19 (fz : Nat)  (h : HH) : Prop := P_V_breakLink_21 fz fz (1 : Int32) h
def B_V_breakLink_12 (fz : Nat)  (h : HH) : HH := B_V_breakLink_19 fz  (B_N_leaveLink fz 11 h)
def P_V_breakLink_12 (fz : Nat)  (h : HH) : Prop := P_N_leaveLink fz 11 h ∧ (P_V_breakLink_19 fz  (B_N_leaveLink fz 11 h))
def B_V_breakLink_5 (fz : Nat)  (h : HH) : HH := B_V_breakLink_12 fz  (B_N_leaveLink fz 1 h)
def P_V_breakLink_5 (fz : Nat)  (h : HH) : Prop := P_N_leaveLink fz 1 h ∧ (P_V_breakLink_12 fz  (B_N_leaveLink fz 1 h))
def B_V_breakLink (fz : Nat)  (h : HH) : HH := B_V_breakLink_5 fz  (u2 h 0 3 (0 : Int32))
def P_V_breakLink (fz : Nat)  (h : HH) : Prop := P_V_breakLink_5 fz  (u2 h 0 3 (0 : Int32))
def B_V_cut (fz : Nat)  (h : HH) : Int32 × HH := if (h 0 3) = 0 then (((0 : Int32), h)) else (((1 : Int32), (B_V_breakLink fz  h)))
def P_V_cut (fz : Nat)  (h : HH) : Prop := ((h 0 3) = 0 → (True)) ∧ (¬ (h 0 3) = 0 → (P_V_breakLink fz  h ∧ (True)))
def B_V_crash_68 (fz : Nat)  (h : HH) : Int32 × HH := if (h 0 3) = 0 then (((1 : Int32), h)) else (((1 : Int32), (B_V_breakLink fz  h)))
def P_V_crash_68 (fz : Nat)  (h : HH) : Prop := ((h 0 3) = 0 → (True)) ∧ (¬ (h 0 3) = 0 → (P_V_breakLink fz  h ∧ (True)))
def B_V_crash_51 (fz : Nat) (i2 : Nat) (h : HH) : Int32 × HH := if (h i2 11) = 0 then (B_V_crash_68 fz  h) else (B_V_crash_68 fz  (u2 (u2 h i2 9 (1 : Int32)) i2 11 (0 : Int32)))
def P_V_crash_51 (fz : Nat) (i2 : Nat) (h : HH) : Prop := ((h i2 11) = 0 → (P_V_crash_68 fz  h)) ∧ (¬ (h i2 11) = 0 → (P_V_crash_68 fz  (u2 (u2 h i2 9 (1 : Int32)) i2 11 (0 : Int32))))
def B_V_crash_41 (fz : Nat) (x1 : Int32) (i2 : Nat) (h : HH) : Int32 × HH := B_V_crash_51 fz i2 (B_T_changeFates fz x1 (3 : Int32) (4 : Int32) h)
def P_V_crash_41 (fz : Nat) (x1 : Int32) (i2 : Nat) (h : HH) : Prop := P_T_changeFates fz x1 (3 : Int32) (4 : Int32) h ∧ (P_V_crash_51 fz i2 (B_T_changeFates fz x1 (3 : Int32) (4 : Int32) h))
def B_V_crash_31 (fz : Nat) (x1 : Int32) (i2 : Nat) (h : HH) : Int32 × HH := B_V_crash_41 fz x1 i2 (B_T_changeFates fz x1 (1 : Int32) (4 : Int32) h)
def P_V_crash_31 (fz : Nat) (x1 : Int32) (i2 : Nat) (h : HH) : Prop := P_T_changeFates fz x1 (1 : Int32) (4 : Int32) h ∧ (P_V_crash_41 fz x1 i2 (B_T_changeFates fz x1 (1 : Int32) (4 : Int32) h))
def B_V_crash (fz : Nat) (x1 : Int32) (h : HH) : Int32 × HH := if (B_V_isNode fz x1 h) = 0 then (((0 : Int32), h)) else (if (h (B_V_nodeOf fz x1 h) 10) = 0 then (((0 : Int32), h)) else (B_V_crash_31 fz x1 (B_V_nodeOf fz x1 h) (u2 h (B_V_nodeOf fz x1 h) 10 (0 : Int32))))
def P_V_crash (fz : Nat) (x1 : Int32) (h : HH) : Prop := P_V_isNode fz x1 h ∧ (((B_V_isNode fz x1 h) = 0 → (True)) ∧ (¬ (B_V_isNode fz x1 h) = 0 → (P_V_nodeOf fz x1 h ∧ (((h (B_V_nodeOf fz x1 h) 10) = 0 → (True)) ∧ (¬ (h (B_V_nodeOf fz x1 h) 10) = 0 → (P_V_nodeOf fz x1 h ∧ (P_V_crash_31 fz x1 (B_V_nodeOf fz x1 h) (u2 h (B_V_nodeOf fz x1 h) 10 (0 : Int32)))))))))
def B_E_allBlocks_4 (fz : Nat) : Nat → Nat → Int32 → Int32 → HH → Int32
  | 0, _, _, _, _ => 0
  | fu + 1, i0, x1, x2, h => if (h (i0 + 2) 1) ≤ x2 then (x1) else (B_E_allBlocks_4 fz fu i0 (x1 ||| (B_V_blocksOfExtent fz (h (i0 + 3) (ix x2)) h)) (x2 + 1) h)
def P_E_allBlocks_4 (fz : Nat) : Nat → Nat → Int32 → Int32 → HH → Prop
  | 0, _, _, _, _ => False
  | fu + 1, i0, x1, x2, h => ((h (i0 + 2) 1) ≤ x2 → (True)) ∧ (¬ (h (i0 + 2) 1) ≤ x2 → (vp_in x2 3 ∧ (P_V_blocksOfExtent fz (h (i0 + 3) (ix x2)) h ∧ (P_E_allBlocks_4 fz fu i0 (x1 ||| (B_V_blocksOfExtent fz (h (i0 + 3) (ix x2)) h)) (x2 + 1) h))))
def B_E_allBlocks (fz : Nat) (i0 : Nat) (h : HH) : Int32 := B_E_allBlocks_4 fz fz i0 (0 : Int32) (0 : Int32) h
def P_E_allBlocks (fz : Nat) (i0 : Nat) (h : HH) : Prop := P_E_allBlocks_4 fz fz i0 (0 : Int32) (0 : Int32) h
def B_V_restart_31 (fz : Nat) (i2 : Nat) (h : HH) : Int32 × HH := if (h i2 9) = 0 then (((1 : Int32), h)) else (((1 : Int32), (u2 h i2 5 ((h i2 5) ||| (B_E_allBlocks fz i2 h)))))
def P_V_restart_31 (fz : Nat) (i2 : Nat) (h : HH) : Prop := ((h i2 9) = 0 → (True)) ∧ (¬ (h i2 9) = 0 → (P_E_allBlocks fz i2 h ∧ (True)))
def B_V_restart (fz : Nat) (x1 : Int32) (h : HH) : Int32 × HH := if (B_V_isNode fz x1 h) = 0 then (((0 : Int32), h)) else (if (h (B_V_nodeOf fz x1 h) 10) = 0 then (B_V_restart_31 fz (B_V_nodeOf fz x1 h) (u2 h (B_V_nodeOf fz x1 h) 10 (1 : Int32))) else (((0 : Int32), h)))
def P_V_restart (fz : Nat) (x1 : Int32) (h : HH) : Prop := P_V_isNode fz x1 h ∧ (((B_V_isNode fz x1 h) = 0 → (True)) ∧ (¬ (B_V_isNode fz x1 h) = 0 → (P_V_nodeOf fz x1 h ∧ (((h (B_V_nodeOf fz x1 h) 10) = 0 → (P_V_nodeOf fz x1 h ∧ (P_V_restart_31 fz (B_V_nodeOf fz x1 h) (u2 h (B_V_nodeOf fz x1 h) 10 (1 : Int32))))) ∧ (¬ (h (B_V_nodeOf fz x1 h) 10) = 0 → (True))))))
def B_V_promote_56 (fz : Nat) (i2 : Nat) (h : HH) : Int32 × HH := ((0 : Int32), (u2 h i2 11 (1 : Int32)))
def P_V_promote_56 (fz : Nat) (i2 : Nat) (h : HH) : Prop := True
def B_V_promote (fz : Nat) (x1 : Int32) (h : HH) : Int32 × HH := if (B_V_isNode fz x1 h) = 0 then (((-1 : Int32), h)) else (if (h (B_V_nodeOf fz x1 h) 10) = 0 then (((-2 : Int32), h)) else (if (h (B_V_nodeOf fz x1 h) 8) = 0 then (if (h 0 3) = 0 then (B_V_promote_56 fz (B_V_nodeOf fz x1 h) h) else (if (h (B_V_peerOf fz x1 h) 11) = 0 then (B_V_promote_56 fz (B_V_nodeOf fz x1 h) h) else (((-7 : Int32), h)))) else (((-6 : Int32), h))))
def P_V_promote (fz : Nat) (x1 : Int32) (h : HH) : Prop := P_V_isNode fz x1 h ∧ (((B_V_isNode fz x1 h) = 0 → (True)) ∧ (¬ (B_V_isNode fz x1 h) = 0 → (P_V_nodeOf fz x1 h ∧ (((h (B_V_nodeOf fz x1 h) 10) = 0 → (True)) ∧ (¬ (h (B_V_nodeOf fz x1 h) 10) = 0 → (((h (B_V_nodeOf fz x1 h) 8) = 0 → (((h 0 3) = 0 → (P_V_promote_56 fz (B_V_nodeOf fz x1 h) h)) ∧ (¬ (h 0 3) = 0 → (P_V_peerOf fz x1 h ∧ (((h (B_V_peerOf fz x1 h) 11) = 0 → (P_V_promote_56 fz (B_V_nodeOf fz x1 h) h)) ∧ (¬ (h (B_V_peerOf fz x1 h) 11) = 0 → (True))))))) ∧ (¬ (h (B_V_nodeOf fz x1 h) 8) = 0 → (True))))))))
def B_V_demote (fz : Nat) (x1 : Int32) (h : HH) : Int32 × HH := if (B_V_isNode fz x1 h) = 0 then (((-1 : Int32), h)) else (if (h (B_V_nodeOf fz x1 h) 10) = 0 then (((-2 : Int32), h)) else (if (h (B_V_nodeOf fz x1 h) 11) = 0 then (((-3 : Int32), h)) else (if (B_T_countPending fz x1 h) ≤ 0 then (((0 : Int32), (u2 h (B_V_nodeOf fz x1 h) 11 (0 : Int32)))) else (((-5 : Int32), h)))))
def P_V_demote (fz : Nat) (x1 : Int32) (h : HH) : Prop := P_V_isNode fz x1 h ∧ (((B_V_isNode fz x1 h) = 0 → (True)) ∧ (¬ (B_V_isNode fz x1 h) = 0 → (P_V_nodeOf fz x1 h ∧ (((h (B_V_nodeOf fz x1 h) 10) = 0 → (True)) ∧ (¬ (h (B_V_nodeOf fz x1 h) 10) = 0 → (((h (B_V_nodeOf fz x1 h) 11) = 0 → (True)) ∧ (¬ (h (B_V_nodeOf fz x1 h) 11) = 0 → (P_T_countPending fz x1 h ∧ (((B_T_countPending fz x1 h) ≤ 0 → (True)) ∧ (¬ (B_T_countPending fz x1 h) ≤ 0 → (True)))))))))))
def B_V_discard_74 (fz : Nat) (x1 : Int32) (h : HH) : Int32 × HH := ((1 : Int32), (B_T_changeFates fz x1 (3 : Int32) (4 : Int32) h))
def P_V_discard_74 (fz : Nat) (x1 : Int32) (h : HH) : Prop := P_T_changeFates fz x1 (3 : Int32) (4 : Int32) h ∧ (True)
def B_V_discard (fz : Nat) (x1 : Int32) (h : HH) : Int32 × HH := if (B_V_isNode fz x1 h) = 0 then (((0 : Int32), h)) else (if (h 0 3) = 0 then (if (h (B_V_nodeOf fz x1 h) 10) = 0 then (((0 : Int32), h)) else (if (h (B_V_nodeOf fz x1 h) 11) = 0 then (if (h (B_V_peerOf fz x1 h) 8) = 0 then (B_V_discard_74 fz x1 (u2 (u2 (u2 (u2 (u2 h (B_V_nodeOf fz x1 h) 8 (1 : Int32)) (B_V_nodeOf fz x1 h) 9 (0 : Int32)) (B_V_nodeOf fz x1 h) 6 (0 : Int32)) (B_V_nodeOf fz x1 h) 7 (0 : Int32)) (B_V_nodeOf fz x1 h) 5 (0 : Int32))) else (((0 : Int32), h))) else (((0 : Int32), h)))) else (((0 : Int32), h)))
def P_V_discard (fz : Nat) (x1 : Int32) (h : HH) : Prop := P_V_isNode fz x1 h ∧ (((B_V_isNode fz x1 h) = 0 → (True)) ∧ (¬ (B_V_isNode fz x1 h) = 0 → (((h 0 3) = 0 → (P_V_nodeOf fz x1 h ∧ (((h (B_V_nodeOf fz x1 h) 10) = 0 → (True)) ∧ (¬ (h (B_V_nodeOf fz x1 h) 10) = 0 → (((h (B_V_nodeOf fz x1 h) 11) = 0 → (P_V_peerOf fz x1 h ∧ (((h (B_V_peerOf fz x1 h) 8) = 0 → (P_V_discard_74 fz x1 (u2 (u2 (u2 (u2 (u2 h (B_V_nodeOf fz x1 h) 8 (1 : Int32)) (B_V_nodeOf fz x1 h) 9 (0 : Int32)) (B_V_nodeOf fz x1 h) 6 (0 : Int32)) (B_V_nodeOf fz x1 h) 7 (0 : Int32)) (B_V_nodeOf fz x1 h) 5 (0 : Int32)))) ∧ (¬ (h (B_V_peerOf fz x1 h) 8) = 0 → (True))))) ∧ (¬ (h (B_V_nodeOf fz x1 h) 11) = 0 → (True))))))) ∧ (¬ (h 0 3) = 0 → (True)))))
def B_V_disk (fz : Nat) (x1 : Int32) (x2 : Int32) (h : HH) : Int32 := if (B_V_isNode fz x1 h) = 0 then ((0 : Int32)) else (if (B_V_isBlock fz x2 h) = 0 then ((0 : Int32)) else ((h ((B_V_nodeOf fz x1 h) + 1) (ix x2))))
def P_V_disk (fz : Nat) (x1 : Int32) (x2 : Int32) (h : HH) : Prop := P_V_isNode fz x1 h ∧ (((B_V_isNode fz x1 h) = 0 → (True)) ∧ (¬ (B_V_isNode fz x1 h) = 0 → (P_V_isBlock fz x2 h ∧ (((B_V_isBlock fz x2 h) = 0 → (True)) ∧ (¬ (B_V_isBlock fz x2 h) = 0 → (P_V_nodeOf fz x1 h ∧ (vp_in x2 32 ∧ (True))))))))
def B_T_has (fz : Nat) (x1 : Int32) (h : HH) : Int32 := if x1 < (1 : Int32) then ((0 : Int32)) else (if (h 21 5) < x1 then ((0 : Int32)) else ((1 : Int32)))
def P_T_has (fz : Nat) (x1 : Int32) (h : HH) : Prop := (x1 < (1 : Int32) → (True)) ∧ (¬ x1 < (1 : Int32) → (((h 21 5) < x1 → (True)) ∧ (¬ (h 21 5) < x1 → (True))))
def B_V_fate (fz : Nat) (x1 : Int32) (h : HH) : Int32 := if (B_T_has fz x1 h) = 0 then ((0 : Int32)) else ((h 26 (ix x1)))
def P_V_fate (fz : Nat) (x1 : Int32) (h : HH) : Prop := P_T_has fz x1 h ∧ (((B_T_has fz x1 h) = 0 → (True)) ∧ (¬ (B_T_has fz x1 h) = 0 → (vp_in x1 301 ∧ (True))))
def B_V_state_120 (fz : Nat) (y0 : Int32) (y1 : Int32) (h : HH) : Int32 := (y0 + y1)
def P_V_state_120 (fz : Nat) (y0 : Int32) (y1 : Int32) (h : HH) : Prop := True
def B_V_state_104 (fz : Nat) (i2 : Nat) (y0 : Int32) (y1 : Int32) (h : HH) : Int32 := if (h i2 13) = 0 then (B_V_state_120 fz (y0 + y1) (0 : Int32) h) else (B_V_state_120 fz (y0 + y1) (64 : Int32) h)
def P_V_state_104 (fz : Nat) (i2 : Nat) (y0 : Int32) (y1 : Int32) (h : HH) : Prop := ((h i2 13) = 0 → (P_V_state_120 fz (y0 + y1) (0 : Int32) h)) ∧ (¬ (h i2 13) = 0 → (P_V_state_120 fz (y0 + y1) (64 : Int32) h))
def B_V_state_88 (fz : Nat) (i2 : Nat) (y0 : Int32) (y1 : Int32) (h : HH) : Int32 := if (h i2 12) = 0 then (B_V_state_104 fz i2 (y0 + y1) (0 : Int32) h) else (B_V_state_104 fz i2 (y0 + y1) (32 : Int32) h)
def P_V_state_88 (fz : Nat) (i2 : Nat) (y0 : Int32) (y1 : Int32) (h : HH) : Prop := ((h i2 12) = 0 → (P_V_state_104 fz i2 (y0 + y1) (0 : Int32) h)) ∧ (¬ (h i2 12) = 0 → (P_V_state_104 fz i2 (y0 + y1) (32 : Int32) h))
def B_V_state_72 (fz : Nat) (i2 : Nat) (y0 : Int32) (y1 : Int32) (h : HH) : Int32 := if (h 0 3) = 0 then (B_V_state_88 fz i2 (y0 + y1) (0 : Int32) h) else (B_V_state_88 fz i2 (y0 + y1) (16 : Int32) h)
def P_V_state_72 (fz : Nat) (i2 : Nat) (y0 : Int32) (y1 : Int32) (h : HH) : Prop := ((h 0 3) = 0 → (P_V_state_88 fz i2 (y0 + y1) (0 : Int32) h)) ∧ (¬ (h 0 3) = 0 → (P_V_state_88 fz i2 (y0 + y1) (16 : Int32) h))
def B_V_state_56 (fz : Nat) (i2 : Nat) (y0 : Int32) (y1 : Int32) (h : HH) : Int32 := if (h i2 9) = 0 then (B_V_state_72 fz i2 (y0 + y1) (0 : Int32) h) else (B_V_state_72 fz i2 (y0 + y1) (8 : Int32) h)
def P_V_state_56 (fz : Nat) (i2 : Nat) (y0 : Int32) (y1 : Int32) (h : HH) : Prop := ((h i2 9) = 0 → (P_V_state_72 fz i2 (y0 + y1) (0 : Int32) h)) ∧ (¬ (h i2 9) = 0 → (P_V_state_72 fz i2 (y0 + y1) (8 : Int32) h))
def B_V_state_41 (fz : Nat) (i2 : Nat) (y0 : Int32) (y1 : Int32) (h : HH) : Int32 := if (h i2 8) = 0 then (B_V_state_56 fz i2 (y0 + y1) (0 : Int32) h) else (B_V_state_56 fz i2 (y0 + y1) (4 : Int32) h)
def P_V_state_41 (fz : Nat) (i2 : Nat) (y0 : Int32) (y1 : Int32) (h : HH) : Prop := ((h i2 8) = 0 → (P_V_state_56 fz i2 (y0 + y1) (0 : Int32) h)) ∧ (¬ (h i2 8) = 0 → (P_V_state_56 fz i2 (y0 + y1) (4 : Int32) h))
def B_V_state_27 (fz : Nat) (i2 : Nat) (y0 : Int32) (h : HH) : Int32 := if (h i2 11) = 0 then (B_V_state_41 fz i2 y0 (0 : Int32) h) else (B_V_state_41 fz i2 y0 (2 : Int32) h)
def P_V_state_27 (fz : Nat) (i2 : Nat) (y0 : Int32) (h : HH) : Prop := ((h i2 11) = 0 → (P_V_state_41 fz i2 y0 (0 : Int32) h)) ∧ (¬ (h i2 11) = 0 → (P_V_state_41 fz i2 y0 (2 : Int32) h))
def B_V_state (fz : Nat) (x1 : Int32) (h : HH) : Int32 := if (B_V_isNode fz x1 h) = 0 then ((-1 : Int32)) else (if (h (B_V_nodeOf fz x1 h) 10) = 0 then (B_V_state_27 fz (B_V_nodeOf fz x1 h) (0 : Int32) h) else (B_V_state_27 fz (B_V_nodeOf fz x1 h) (1 : Int32) h))
def P_V_state (fz : Nat) (x1 : Int32) (h : HH) : Prop := P_V_isNode fz x1 h ∧ (((B_V_isNode fz x1 h) = 0 → (True)) ∧ (¬ (B_V_isNode fz x1 h) = 0 → (P_V_nodeOf fz x1 h ∧ (((h (B_V_nodeOf fz x1 h) 10) = 0 → (P_V_state_27 fz (B_V_nodeOf fz x1 h) (0 : Int32) h)) ∧ (¬ (h (B_V_nodeOf fz x1 h) 10) = 0 → (P_V_state_27 fz (B_V_nodeOf fz x1 h) (1 : Int32) h))))))
def B_V_generation (fz : Nat) (x1 : Int32) (h : HH) : Int64 := if (B_V_isNode fz x1 h) = 0 then ((0 : Int64)) else ((((((h (B_V_nodeOf fz x1 h) 6)).toInt64) <<< (((32 : Int32)).toInt64 &&& 63)) + (((h (B_V_nodeOf fz x1 h) 7)).toInt64)))
def P_V_generation (fz : Nat) (x1 : Int32) (h : HH) : Prop := P_V_isNode fz x1 h ∧ (((B_V_isNode fz x1 h) = 0 → (True)) ∧ (¬ (B_V_isNode fz x1 h) = 0 → (P_V_nodeOf fz x1 h ∧ (P_V_nodeOf fz x1 h ∧ (True)))))
def B_V_map (fz : Nat) (x1 : Int32) (h : HH) : Int32 := if (B_V_isNode fz x1 h) = 0 then ((0 : Int32)) else ((h (B_V_nodeOf fz x1 h) 5))
def P_V_map (fz : Nat) (x1 : Int32) (h : HH) : Prop := P_V_isNode fz x1 h ∧ (((B_V_isNode fz x1 h) = 0 → (True)) ∧ (¬ (B_V_isNode fz x1 h) = 0 → (P_V_nodeOf fz x1 h ∧ (True))))
def B_E_extentAt (fz : Nat) (i0 : Nat) (x1 : Int32) (h : HH) : Int32 := if x1 < 0 then ((-1 : Int32)) else (if (h (i0 + 2) 1) ≤ x1 then ((-1 : Int32)) else ((h (i0 + 3) (ix x1))))
def P_E_extentAt (fz : Nat) (i0 : Nat) (x1 : Int32) (h : HH) : Prop := (x1 < 0 → (True)) ∧ (¬ x1 < 0 → (((h (i0 + 2) 1) ≤ x1 → (True)) ∧ (¬ (h (i0 + 2) 1) ≤ x1 → (vp_in x1 3 ∧ (True)))))
def B_V_log (fz : Nat) (x1 : Int32) (x2 : Int32) (h : HH) : Int32 := if (B_V_isNode fz x1 h) = 0 then ((-1 : Int32)) else ((B_E_extentAt fz (B_V_nodeOf fz x1 h) x2 h))
def P_V_log (fz : Nat) (x1 : Int32) (x2 : Int32) (h : HH) : Prop := P_V_isNode fz x1 h ∧ (((B_V_isNode fz x1 h) = 0 → (True)) ∧ (¬ (B_V_isNode fz x1 h) = 0 → (P_V_nodeOf fz x1 h ∧ (P_E_extentAt fz (B_V_nodeOf fz x1 h) x2 h ∧ (True)))))
def B_V_traffic (fz : Nat) (x1 : Int32) (h : HH) : Int32 := if (B_V_isNode fz x1 h) = 0 then ((0 : Int32)) else ((((h ((B_V_nodeOf fz x1 h) + 4) 4) + ((100 : Int32) * (h ((B_V_nodeOf fz x1 h) + 8) 1))) + ((10000 : Int32) * (B_I_bitCount fz (h (B_V_nodeOf fz x1 h) 14) h))))
def P_V_traffic (fz : Nat) (x1 : Int32) (h : HH) : Prop := P_V_isNode fz x1 h ∧ (((B_V_isNode fz x1 h) = 0 → (True)) ∧ (¬ (B_V_isNode fz x1 h) = 0 → (P_V_nodeOf fz x1 h ∧ (P_I_bitCount fz (h (B_V_nodeOf fz x1 h) 14) h ∧ (True)))))
def B_M_isNode (fz : Nat) (x0 : Int32) (h : HH) : Int32 := if x0 = 0 then ((1 : Int32)) else (if x0 = (1 : Int32) then ((1 : Int32)) else ((0 : Int32)))
def P_M_isNode (fz : Nat) (x0 : Int32) (h : HH) : Prop := (x0 = 0 → (True)) ∧ (¬ x0 = 0 → ((x0 = (1 : Int32) → (True)) ∧ (¬ x0 = (1 : Int32) → (True))))
def B_M_isBlock (fz : Nat) (x0 : Int32) (h : HH) : Int32 := if x0 < 0 then ((0 : Int32)) else (if (31 : Int32) < x0 then ((0 : Int32)) else ((1 : Int32)))
def P_M_isBlock (fz : Nat) (x0 : Int32) (h : HH) : Prop := (x0 < 0 → (True)) ∧ (¬ x0 < 0 → (((31 : Int32) < x0 → (True)) ∧ (¬ (31 : Int32) < x0 → (True))))
def B_M_pending_6 (fz : Nat) : Nat → Int32 → Int32 → Int32 → Int32 → Int32 → HH → Int32
  | 0, _, _, _, _, _, _ => 0
  | fu + 1, x1, x2, x3, x4, x5, h => if (h 27 0) < x5 then (x4) else (if (h 32 (ix x5)) = (1 : Int32) then (if (h 28 (ix x5)) = x1 then (if (h 29 (ix x5)) < x2 then (B_M_pending_6 fz fu x1 x2 x3 x4 (x5 + 1) h) else (if x3 < (h 29 (ix x5)) then (B_M_pending_6 fz fu x1 x2 x3 x4 (x5 + 1) h) else (B_M_pending_6 fz fu x1 x2 x3 (x4 + 1) (x5 + 1) h))) else (B_M_pending_6 fz fu x1 x2 x3 x4 (x5 + 1) h)) else (B_M_pending_6 fz fu x1 x2 x3 x4 (x5 + 1) h))
def P_M_pending_6 (fz : Nat) : Nat → Int32 → Int32 → Int32 → Int32 → Int32 → HH → Prop
  | 0, _, _, _, _, _, _ => False
  | fu + 1, x1, x2, x3, x4, x5, h => ((h 27 0) < x5 → (True)) ∧ (¬ (h 27 0) < x5 → (vp_in x5 301 ∧ (((h 32 (ix x5)) = (1 : Int32) → (vp_in x5 301 ∧ (((h 28 (ix x5)) = x1 → (vp_in x5 301 ∧ (((h 29 (ix x5)) < x2 → (P_M_pending_6 fz fu x1 x2 x3 x4 (x5 + 1) h)) ∧ (¬ (h 29 (ix x5)) < x2 → (vp_in x5 301 ∧ ((x3 < (h 29 (ix x5)) → (P_M_pending_6 fz fu x1 x2 x3 x4 (x5 + 1) h)) ∧ (¬ x3 < (h 29 (ix x5)) → (P_M_pending_6 fz fu x1 x2 x3 (x4 + 1) (x5 + 1) h)))))))) ∧ (¬ (h 28 (ix x5)) = x1 → (P_M_pending_6 fz fu x1 x2 x3 x4 (x5 + 1) h))))) ∧ (¬ (h 32 (ix x5)) = (1 : Int32) → (P_M_pending_6 fz fu x1 x2 x3 x4 (x5 + 1) h)))))
def B_M_pending (fz : Nat) (x1 : Int32) (x2 : Int32) (x3 : Int32) (h : HH) : Int32 := B_M_pending_6 fz fz x1 x2 x3 (0 : Int32) (1 : Int32) h
def P_M_pending (fz : Nat) (x1 : Int32) (x2 : Int32) (x3 : Int32) (h : HH) : Prop := P_M_pending_6 fz fz x1 x2 x3 (0 : Int32) (1 : Int32) h
def B_M_inLog_4 (fz : Nat) : Nat → Int32 → Int32 → Int32 → HH → Int32
  | 0, _, _, _, _ => 0
  | fu + 1, x1, x2, x3, h => if (8 : Int32) ≤ x3 then (x2) else (if (h 36 (ix (((8 : Int32) * x1) + x3))) = 0 then (B_M_inLog_4 fz fu x1 x2 (x3 + 1) h) else (B_M_inLog_4 fz fu x1 (x2 + (1 : Int32)) (x3 + 1) h))
def P_M_inLog_4 (fz : Nat) : Nat → Int32 → Int32 → Int32 → HH → Prop
  | 0, _, _, _, _ => False
  | fu + 1, x1, x2, x3, h => ((8 : Int32) ≤ x3 → (True)) ∧ (¬ (8 : Int32) ≤ x3 → (vp_in (((8 : Int32) * x1) + x3) 16 ∧ (((h 36 (ix (((8 : Int32) * x1) + x3))) = 0 → (P_M_inLog_4 fz fu x1 x2 (x3 + 1) h)) ∧ (¬ (h 36 (ix (((8 : Int32) * x1) + x3))) = 0 → (P_M_inLog_4 fz fu x1 (x2 + (1 : Int32)) (x3 + 1) h)))))
def B_M_inLog (fz : Nat) (x1 : Int32) (h : HH) : Int32 := B_M_inLog_4 fz fz x1 (0 : Int32) (0 : Int32) h
def P_M_inLog (fz : Nat) (x1 : Int32) (h : HH) : Prop := P_M_inLog_4 fz fz x1 (0 : Int32) (0 : Int32) h
def B_M_idle_4 (fz : Nat) : Nat → Int32 → Int32 → Int32 → HH → Int32
  | 0, _, _, _, _ => 0
  | fu + 1, x1, x2, x3, h => if (8 : Int32) ≤ x3 then (x2) else (if (h 36 (ix (((8 : Int32) * x1) + x3))) = 0 then (B_M_idle_4 fz fu x1 x2 (x3 + 1) h) else (if (B_M_pending fz x1 ((4 : Int32) * x3) (((4 : Int32) * x3) + (3 : Int32)) h) = 0 then (if x2 < 0 then (B_M_idle_4 fz fu x1 x3 (x3 + 1) h) else (if (h 37 (ix (((8 : Int32) * x1) + x2))) ≤ (h 37 (ix (((8 : Int32) * x1) + x3))) then (B_M_idle_4 fz fu x1 x2 (x3 + 1) h) else (B_M_idle_4 fz fu x1 x3 (x3 + 1) h))) else (B_M_idle_4 fz fu x1 x2 (x3 + 1) h)))
def P_M_idle_4 (fz : Nat) : Nat → Int32 → Int32 → Int32 → HH → Prop
  | 0, _, _, _, _ => False
  | fu + 1, x1, x2, x3, h => ((8 : Int32) ≤ x3 → (True)) ∧ (¬ (8 : Int32) ≤ x3 → (vp_in (((8 : Int32) * x1) + x3) 16 ∧ (((h 36 (ix (((8 : Int32) * x1) + x3))) = 0 → (P_M_idle_4 fz fu x1 x2 (x3 + 1) h)) ∧ (¬ (h 36 (ix (((8 : Int32) * x1) + x3))) = 0 → (P_M_pending fz x1 ((4 : Int32) * x3) (((4 : Int32) * x3) + (3 : Int32)) h ∧ (((B_M_pending fz x1 ((4 : Int32) * x3) (((4 : Int32) * x3) + (3 : Int32)) h) = 0 → ((x2 < 0 → (P_M_idle_4 fz fu x1 x3 (x3 + 1) h)) ∧ (¬ x2 < 0 → (vp_in (((8 : Int32) * x1) + x3) 16 ∧ (vp_in (((8 : Int32) * x1) + x2) 16 ∧ (((h 37 (ix (((8 : Int32) * x1) + x2))) ≤ (h 37 (ix (((8 : Int32) * x1) + x3))) → (P_M_idle_4 fz fu x1 x2 (x3 + 1) h)) ∧ (¬ (h 37 (ix (((8 : Int32) * x1) + x2))) ≤ (h 37 (ix (((8 : Int32) * x1) + x3))) → (P_M_idle_4 fz fu x1 x3 (x3 + 1) h)))))))) ∧ (¬ (B_M_pending fz x1 ((4 : Int32) * x3) (((4 : Int32) * x3) + (3 : Int32)) h) = 0 → (P_M_idle_4 fz fu x1 x2 (x3 + 1) h))))))))
def B_M_idle (fz : Nat) (x1 : Int32) (h : HH) : Int32 := B_M_idle_4 fz fz x1 (-1 : Int32) (0 : Int32) h
def P_M_idle (fz : Nat) (x1 : Int32) (h : HH) : Prop := P_M_idle_4 fz fz x1 (-1 : Int32) (0 : Int32) h
def B_M_nothingInMap_4 (fz : Nat) : Nat → Int32 → Int32 → Int32 → HH → Int32
  | 0, _, _, _, _ => 0
  | fu + 1, x1, x2, x3, h => if (32 : Int32) ≤ x3 then (x2) else (if x2 = 0 then (B_M_nothingInMap_4 fz fu x1 (0 : Int32) (x3 + 1) h) else (if (h 35 (ix (((32 : Int32) * x1) + x3))) = 0 then (B_M_nothingInMap_4 fz fu x1 (1 : Int32) (x3 + 1) h) else (B_M_nothingInMap_4 fz fu x1 (0 : Int32) (x3 + 1) h)))
def P_M_nothingInMap_4 (fz : Nat) : Nat → Int32 → Int32 → Int32 → HH → Prop
  | 0, _, _, _, _ => False
  | fu + 1, x1, x2, x3, h => ((32 : Int32) ≤ x3 → (narrow .boolean (.int x2) = .int x2)) ∧ (¬ (32 : Int32) ≤ x3 → ((x2 = 0 → (P_M_nothingInMap_4 fz fu x1 (0 : Int32) (x3 + 1) h)) ∧ (¬ x2 = 0 → (vp_in (((32 : Int32) * x1) + x3) 64 ∧ (((h 35 (ix (((32 : Int32) * x1) + x3))) = 0 → (P_M_nothingInMap_4 fz fu x1 (1 : Int32) (x3 + 1) h)) ∧ (¬ (h 35 (ix (((32 : Int32) * x1) + x3))) = 0 → (P_M_nothingInMap_4 fz fu x1 (0 : Int32) (x3 + 1) h)))))))
def B_M_nothingInMap (fz : Nat) (x1 : Int32) (h : HH) : Int32 := B_M_nothingInMap_4 fz fz x1 (1 : Int32) (0 : Int32) h
def P_M_nothingInMap (fz : Nat) (x1 : Int32) (h : HH) : Prop := P_M_nothingInMap_4 fz fz x1 (1 : Int32) (0 : Int32) h
def B_M_onTheWay_9 (fz : Nat) : Nat → Int32 → Int32 → Int32 → Int32 → Int32 → HH → Int32
  | 0, _, _, _, _, _, _ => 0
  | fu + 1, x1, x2, x3, x4, x5, h => if (((64 : Int32) * x1) + (h 51 (ix x1))) ≤ x5 then (x4) else (if (h 48 (ix x5)) = x2 then (if x3 < 0 then (B_M_onTheWay_9 fz fu x1 x2 x3 (x4 + 1) (x5 + 1) h) else (if (h 49 (ix x5)) = x3 then (B_M_onTheWay_9 fz fu x1 x2 x3 (x4 + 1) (x5 + 1) h) else (B_M_onTheWay_9 fz fu x1 x2 x3 x4 (x5 + 1) h))) else (B_M_onTheWay_9 fz fu x1 x2 x3 x4 (x5 + 1) h))
def P_M_onTheWay_9 (fz : Nat) : Nat → Int32 → Int32 → Int32 → Int32 → Int32 → HH → Prop
  | 0, _, _, _, _, _, _ => False
  | fu + 1, x1, x2, x3, x4, x5, h => vp_in x1 2 ∧ (((((64 : Int32) * x1) + (h 51 (ix x1))) ≤ x5 → (True)) ∧ (¬ (((64 : Int32) * x1) + (h 51 (ix x1))) ≤ x5 → (vp_in x5 128 ∧ (((h 48 (ix x5)) = x2 → ((x3 < 0 → (P_M_onTheWay_9 fz fu x1 x2 x3 (x4 + 1) (x5 + 1) h)) ∧ (¬ x3 < 0 → (vp_in x5 128 ∧ (((h 49 (ix x5)) = x3 → (P_M_onTheWay_9 fz fu x1 x2 x3 (x4 + 1) (x5 + 1) h)) ∧ (¬ (h 49 (ix x5)) = x3 → (P_M_onTheWay_9 fz fu x1 x2 x3 x4 (x5 + 1) h))))))) ∧ (¬ (h 48 (ix x5)) = x2 → (P_M_onTheWay_9 fz fu x1 x2 x3 x4 (x5 + 1) h))))))
def B_M_onTheWay (fz : Nat) (x1 : Int32) (x2 : Int32) (x3 : Int32) (h : HH) : Int32 := B_M_onTheWay_9 fz fz x1 x2 x3 (0 : Int32) ((64 : Int32) * x1) h
def P_M_onTheWay (fz : Nat) (x1 : Int32) (x2 : Int32) (x3 : Int32) (h : HH) : Prop := P_M_onTheWay_9 fz fz x1 x2 x3 (0 : Int32) ((64 : Int32) * x1) h
def B_M_underWay (fz : Nat) (x1 : Int32) (x2 : Int32) (h : HH) : Int32 := ((B_M_onTheWay fz x1 (3 : Int32) x2 h) + (B_M_onTheWay fz ((1 : Int32) - x1) (4 : Int32) x2 h))
def P_M_underWay (fz : Nat) (x1 : Int32) (x2 : Int32) (h : HH) : Prop := P_M_onTheWay fz x1 (3 : Int32) x2 h ∧ (P_M_onTheWay fz ((1 : Int32) - x1) (4 : Int32) x2 h ∧ (True))
def B_M_send_38 (fz : Nat) (x1 : Int32) (h : HH) : HH := (u2 h 51 (ix x1) ((h 51 (ix x1)) + (1 : Int32)))
def P_M_send_38 (fz : Nat) (x1 : Int32) (h : HH) : Prop := vp_in x1 2 ∧ (vp_in x1 2 ∧ (True))
def B_M_send (fz : Nat) (x1 : Int32) (x2 : Int32) (x3 : Int32) (x4 : Int32) (h : HH) : HH := B_M_send_38 fz x1 (u2 (u2 (u2 h 48 (ix (((64 : Int32) * x1) + (h 51 (ix x1)))) x2) 49 (ix (((64 : Int32) * x1) + (h 51 (ix x1)))) x3) 50 (ix (((64 : Int32) * x1) + (h 51 (ix x1)))) x4)
def P_M_send (fz : Nat) (x1 : Int32) (x2 : Int32) (x3 : Int32) (x4 : Int32) (h : HH) : Prop := vp_in x1 2 ∧ (vp_in (((64 : Int32) * x1) + (h 51 (ix x1))) 128 ∧ (vp_in (((64 : Int32) * x1) + (h 51 (ix x1))) 128 ∧ (vp_in (((64 : Int32) * x1) + (h 51 (ix x1))) 128 ∧ (P_M_send_38 fz x1 (u2 (u2 (u2 h 48 (ix (((64 : Int32) * x1) + (h 51 (ix x1)))) x2) 49 (ix (((64 : Int32) * x1) + (h 51 (ix x1)))) x3) 50 (ix (((64 : Int32) * x1) + (h 51 (ix x1)))) x4)))))
def B_M_alone_62 (fz : Nat) (x2 : Int32) (h : HH) : HH := (u2 h 38 (ix x2) (h 27 14))
def P_M_alone_62 (fz : Nat) (x2 : Int32) (h : HH) : Prop := vp_in x2 2 ∧ (True)
def B_M_alone_52 (fz : Nat) (x2 : Int32) (h : HH) : HH := B_M_alone_62 fz x2 (u2 h 27 14 ((h 27 14) + (1 : Int32)))
def P_M_alone_52 (fz : Nat) (x2 : Int32) (h : HH) : Prop := P_M_alone_62 fz x2 (u2 h 27 14 ((h 27 14) + (1 : Int32)))
def B_M_alone_31 (fz : Nat) (x2 : Int32) (h : HH) : HH := if (h 39 (ix x2)) = 0 then (B_M_alone_52 fz x2 (u2 h 39 (ix x2) (h 38 (ix x2)))) else (h)
def P_M_alone_31 (fz : Nat) (x2 : Int32) (h : HH) : Prop := vp_in x2 2 ∧ (((h 39 (ix x2)) = 0 → (vp_in x2 2 ∧ (vp_in x2 2 ∧ (P_M_alone_52 fz x2 (u2 h 39 (ix x2) (h 38 (ix x2))))))) ∧ (¬ (h 39 (ix x2)) = 0 → (True)))
def B_M_alone_14 (fz : Nat) (x1 : Int32) (x2 : Int32) (h : HH) : HH := B_M_alone_31 fz x2 (u2 h 35 (ix (((32 : Int32) * x2) + (h 29 (ix x1)))) (1 : Int32))
def P_M_alone_14 (fz : Nat) (x1 : Int32) (x2 : Int32) (h : HH) : Prop := vp_in x1 301 ∧ (vp_in (((32 : Int32) * x2) + (h 29 (ix x1))) 64 ∧ (P_M_alone_31 fz x2 (u2 h 35 (ix (((32 : Int32) * x2) + (h 29 (ix x1)))) (1 : Int32))))
def B_M_alone (fz : Nat) (x1 : Int32) (h : HH) : HH := B_M_alone_14 fz x1 (h 28 (ix x1)) (u2 h 32 (ix x1) (3 : Int32))
def P_M_alone (fz : Nat) (x1 : Int32) (h : HH) : Prop := vp_in x1 301 ∧ (vp_in x1 301 ∧ (P_M_alone_14 fz x1 (h 28 (ix x1)) (u2 h 32 (ix x1) (3 : Int32))))
def B_M_turnInto_3 (fz : Nat) : Nat → Int32 → Int32 → Int32 → Int32 → HH → HH
  | 0, _, _, _, _, h => h
  | fu + 1, x1, x2, x3, x4, h => if (h 27 0) < x4 then (h) else (if (h 28 (ix x4)) = x1 then (if (h 32 (ix x4)) = x2 then (B_M_turnInto_3 fz fu x1 x2 x3 (x4 + 1) (u2 h 32 (ix x4) x3)) else (B_M_turnInto_3 fz fu x1 x2 x3 (x4 + 1) h)) else (B_M_turnInto_3 fz fu x1 x2 x3 (x4 + 1) h))
def P_M_turnInto_3 (fz : Nat) : Nat → Int32 → Int32 → Int32 → Int32 → HH → Prop
  | 0, _, _, _, _, _ => False
  | fu + 1, x1, x2, x3, x4, h => ((h 27 0) < x4 → (True)) ∧ (¬ (h 27 0) < x4 → (vp_in x4 301 ∧ (((h 28 (ix x4)) = x1 → (vp_in x4 301 ∧ (((h 32 (ix x4)) = x2 → (vp_in x4 301 ∧ (P_M_turnInto_3 fz fu x1 x2 x3 (x4 + 1) (u2 h 32 (ix x4) x3)))) ∧ (¬ (h 32 (ix x4)) = x2 → (P_M_turnInto_3 fz fu x1 x2 x3 (x4 + 1) h))))) ∧ (¬ (h 28 (ix x4)) = x1 → (P_M_turnInto_3 fz fu x1 x2 x3 (x4 + 1) h)))))
def B_M_turnInto (fz : Nat) (x1 : Int32) (x2 : Int32) (x3 : Int32) (h : HH) : HH := B_M_turnInto_3 fz fz x1 x2 x3 (1 : Int32) h
def P_M_turnInto (fz : Nat) (x1 : Int32) (x2 : Int32) (x3 : Int32) (h : HH) : Prop := P_M_turnInto_3 fz fz x1 x2 x3 (1 : Int32) h
def B_M_endIfEmpty_37 (fz : Nat) (x1 : Int32) (h : HH) : HH := (B_M_send fz x1 (5 : Int32) (h 38 (ix x1)) (0 : Int32) h)
def P_M_endIfEmpty_37 (fz : Nat) (x1 : Int32) (h : HH) : Prop := vp_in x1 2 ∧ (P_M_send fz x1 (5 : Int32) (h 38 (ix x1)) (0 : Int32) h ∧ (True))
def B_M_endIfEmpty_30 (fz : Nat) (x1 : Int32) (h : HH) : HH := B_M_endIfEmpty_37 fz x1 (B_M_turnInto fz x1 (3 : Int32) (2 : Int32) h)
def P_M_endIfEmpty_30 (fz : Nat) (x1 : Int32) (h : HH) : Prop := P_M_turnInto fz x1 (3 : Int32) (2 : Int32) h ∧ (P_M_endIfEmpty_37 fz x1 (B_M_turnInto fz x1 (3 : Int32) (2 : Int32) h))
def B_M_endIfEmpty (fz : Nat) (x1 : Int32) (h : HH) : HH := if (B_M_nothingInMap fz x1 h) = 0 then (h) else (B_M_endIfEmpty_30 fz x1 (u2 (u2 (u2 h 44 (ix x1) (0 : Int32)) 41 (ix x1) (0 : Int32)) 39 (ix x1) (0 : Int32)))
def P_M_endIfEmpty (fz : Nat) (x1 : Int32) (h : HH) : Prop := P_M_nothingInMap fz x1 h ∧ (((B_M_nothingInMap fz x1 h) = 0 → (True)) ∧ (¬ (B_M_nothingInMap fz x1 h) = 0 → (vp_in x1 2 ∧ (vp_in x1 2 ∧ (vp_in x1 2 ∧ (P_M_endIfEmpty_30 fz x1 (u2 (u2 (u2 h 44 (ix x1) (0 : Int32)) 41 (ix x1) (0 : Int32)) 39 (ix x1) (0 : Int32))))))))
def B_M_breakLink_41 (fz : Nat) : Nat → Int32 → HH → HH
  | 0, _, h => h
  | fu + 1, x1, h => if (h 27 0) < x1 then (h) else (if ((u2 h 33 (ix x1) (0 : Int32)) 32 (ix x1)) = (1 : Int32) then (B_M_breakLink_41 fz fu (x1 + 1) (B_M_alone fz x1 (u2 h 33 (ix x1) (0 : Int32)))) else (B_M_breakLink_41 fz fu (x1 + 1) (u2 h 33 (ix x1) (0 : Int32))))
def P_M_breakLink_41 (fz : Nat) : Nat → Int32 → HH → Prop
  | 0, _, _ => False
  | fu + 1, x1, h => ((h 27 0) < x1 → (True)) ∧ (¬ (h 27 0) < x1 → (vp_in x1 301 ∧ (vp_in x1 301 ∧ ((((u2 h 33 (ix x1) (0 : Int32)) 32 (ix x1)) = (1 : Int32) → (P_M_alone fz x1 (u2 h 33 (ix x1) (0 : Int32)) ∧ (P_M_breakLink_41 fz fu (x1 + 1) (B_M_alone fz x1 (u2 h 33 (ix x1) (0 : Int32)))))) ∧ (¬ ((u2 h 33 (ix x1) (0 : Int32)) 32 (ix x1)) = (1 : Int32) → (P_M_breakLink_41 fz fu (x1 + 1) (u2 h 33 (ix x1) (0 : Int32))))))))
def B_M_breakLink_7 (fz : Nat) : Nat → Int32 → HH → HH
  | 0, _, h => h
  | fu + 1, x1, h => if (2 : Int32) ≤ x1 then (B_M_breakLink_41 fz fz (1 : Int32) h) else (B_M_breakLink_7 fz fu (x1 + 1) (u2 (u2 (u2 h 51 (ix x1) (0 : Int32)) 44 (ix x1) (0 : Int32)) 45 (ix x1) (0 : Int32)))
def P_M_breakLink_7 (fz : Nat) : Nat → Int32 → HH → Prop
  | 0, _, _ => False
  | fu + 1, x1, h => ((2 : Int32) ≤ x1 → (P_M_breakLink_41 fz fz (1 : Int32) h)) ∧ (¬ (2 : Int32) ≤ x1 → (vp_in x1 2 ∧ (vp_in x1 2 ∧ (vp_in x1 2 ∧ (P_M_breakLink_7 fz fu (x1 + 1) (u2 (u2 (u2 h 51 (ix x1) (0 : Int32)) 44 (ix x1) (0 : Int32)) 45 (ix x1) (0 : Int32)))))))
def B_M_breakLink (fz : Nat)  (h : HH) : HH := B_M_breakLink_7 fz fz (0 : Int32) (u2 h 27 23 (0 : Int32))
def P_M_breakLink (fz : Nat)  (h : HH) : Prop := P_M_breakLink_7 fz fz (0 : Int32) (u2 h 27 23 (0 : Int32))
def B_M_write_298 (fz : Nat) (x1 : Int32) (x6 : Int32) (h : HH) : Int32 × HH := (x6, (B_M_send fz x1 (1 : Int32) x6 (0 : Int32) h))
def P_M_write_298 (fz : Nat) (x1 : Int32) (x6 : Int32) (h : HH) : Prop := P_M_send fz x1 (1 : Int32) x6 (0 : Int32) h ∧ (True)
def B_M_write_283 (fz : Nat) (x1 : Int32) (x6 : Int32) (h : HH) : Int32 × HH := if (h 27 23) = 0 then ((x6, (B_M_alone fz x6 h))) else (B_M_write_298 fz x1 x6 (u2 h 32 (ix x6) (1 : Int32)))
def P_M_write_283 (fz : Nat) (x1 : Int32) (x6 : Int32) (h : HH) : Prop := ((h 27 23) = 0 → (P_M_alone fz x6 h ∧ (True))) ∧ (¬ (h 27 23) = 0 → (vp_in x6 301 ∧ (P_M_write_298 fz x1 x6 (u2 h 32 (ix x6) (1 : Int32)))))
def B_M_write_254 (fz : Nat) (x1 : Int32) (x2 : Int32) (x3 : Int32) (x6 : Int32) (y1 : Int32) (y2 : Int32) (y3 : Int32) (h : HH) : Int32 × HH := B_M_write_283 fz x1 x6 (u2 (u2 (u2 (u2 h 31 (ix y1) (y2 + y3)) 47 (ix x1) x6) 46 (ix x1) (0 : Int32)) 34 (ix (((32 : Int32) * x1) + x2)) x3)
def P_M_write_254 (fz : Nat) (x1 : Int32) (x2 : Int32) (x3 : Int32) (x6 : Int32) (y1 : Int32) (y2 : Int32) (y3 : Int32) (h : HH) : Prop := vp_in y1 301 ∧ (vp_in x1 2 ∧ (vp_in x1 2 ∧ (vp_in (((32 : Int32) * x1) + x2) 64 ∧ (P_M_write_283 fz x1 x6 (u2 (u2 (u2 (u2 h 31 (ix y1) (y2 + y3)) 47 (ix x1) x6) 46 (ix x1) (0 : Int32)) 34 (ix (((32 : Int32) * x1) + x2)) x3)))))
def B_M_write_227 (fz : Nat) (x1 : Int32) (x2 : Int32) (x3 : Int32) (x5 : Int32) (x6 : Int32) (h : HH) : Int32 × HH := if x5 = 0 then (B_M_write_254 fz x1 x2 x3 x6 x6 (h 31 (ix (h 47 (ix x1)))) (0 : Int32) h) else (B_M_write_254 fz x1 x2 x3 x6 x6 (h 31 (ix (h 47 (ix x1)))) (1 : Int32) h)
def P_M_write_227 (fz : Nat) (x1 : Int32) (x2 : Int32) (x3 : Int32) (x5 : Int32) (x6 : Int32) (h : HH) : Prop := vp_in x1 2 ∧ (vp_in (h 47 (ix x1)) 301 ∧ ((x5 = 0 → (P_M_write_254 fz x1 x2 x3 x6 x6 (h 31 (ix (h 47 (ix x1)))) (0 : Int32) h)) ∧ (¬ x5 = 0 → (P_M_write_254 fz x1 x2 x3 x6 x6 (h 31 (ix (h 47 (ix x1)))) (1 : Int32) h))))
def B_M_write_197 (fz : Nat) (x1 : Int32) (x2 : Int32) (x3 : Int32) (x5 : Int32) (h : HH) : Int32 × HH := B_M_write_227 fz x1 x2 x3 x5 (h 27 0) (u2 (u2 (u2 h 28 (ix (h 27 0)) x1) 29 (ix (h 27 0)) x2) 30 (ix (h 27 0)) x3)
def P_M_write_197 (fz : Nat) (x1 : Int32) (x2 : Int32) (x3 : Int32) (x5 : Int32) (h : HH) : Prop := vp_in (h 27 0) 301 ∧ (vp_in (h 27 0) 301 ∧ (vp_in (h 27 0) 301 ∧ (P_M_write_227 fz x1 x2 x3 x5 (h 27 0) (u2 (u2 (u2 h 28 (ix (h 27 0)) x1) 29 (ix (h 27 0)) x2) 30 (ix (h 27 0)) x3))))
def B_M_write_185 (fz : Nat) (x1 : Int32) (x2 : Int32) (x3 : Int32) (y0 : Int32) (h : HH) : Int32 × HH := B_M_write_197 fz x1 x2 x3 y0 (u2 h 27 0 ((h 27 0) + (1 : Int32)))
def P_M_write_185 (fz : Nat) (x1 : Int32) (x2 : Int32) (x3 : Int32) (y0 : Int32) (h : HH) : Prop := P_M_write_197 fz x1 x2 x3 y0 (u2 h 27 0 ((h 27 0) + (1 : Int32)))
def B_M_write_180 (fz : Nat) (x1 : Int32) (x2 : Int32) (x3 : Int32) (h : HH) : Int32 × HH := B_M_write_185 fz x1 x2 x3 (1 : Int32) h
def P_M_write_180 (fz : Nat) (x1 : Int32) (x2 : Int32) (x3 : Int32) (h : HH) : Prop := P_M_write_185 fz x1 x2 x3 (1 : Int32) h
def B_M_write_152 (fz : Nat) (x1 : Int32) (x2 : Int32) (x3 : Int32) (h : HH) : Int32 × HH := if (h 47 (ix x1)) = 0 then (B_M_write_180 fz x1 x2 x3 h) else (if (h 46 (ix x1)) = 0 then (if (B_M_pending fz x1 x2 x2 h) ≤ 0 then (B_M_write_185 fz x1 x2 x3 (0 : Int32) h) else (B_M_write_180 fz x1 x2 x3 h)) else (B_M_write_180 fz x1 x2 x3 h))
def P_M_write_152 (fz : Nat) (x1 : Int32) (x2 : Int32) (x3 : Int32) (h : HH) : Prop := vp_in x1 2 ∧ (((h 47 (ix x1)) = 0 → (P_M_write_180 fz x1 x2 x3 h)) ∧ (¬ (h 47 (ix x1)) = 0 → (vp_in x1 2 ∧ (((h 46 (ix x1)) = 0 → (P_M_pending fz x1 x2 x2 h ∧ (((B_M_pending fz x1 x2 x2 h) ≤ 0 → (P_M_write_185 fz x1 x2 x3 (0 : Int32) h)) ∧ (¬ (B_M_pending fz x1 x2 x2 h) ≤ 0 → (P_M_write_180 fz x1 x2 x3 h))))) ∧ (¬ (h 46 (ix x1)) = 0 → (P_M_write_180 fz x1 x2 x3 h))))))
def B_M_write_141 (fz : Nat) (x1 : Int32) (x2 : Int32) (x3 : Int32) (x4 : Int32) (h : HH) : Int32 × HH := B_M_write_152 fz x1 x2 x3 (u2 h 37 (ix x4) (h 27 11))
def P_M_write_141 (fz : Nat) (x1 : Int32) (x2 : Int32) (x3 : Int32) (x4 : Int32) (h : HH) : Prop := vp_in x4 16 ∧ (P_M_write_152 fz x1 x2 x3 (u2 h 37 (ix x4) (h 27 11)))
def B_M_write_131 (fz : Nat) (x1 : Int32) (x2 : Int32) (x3 : Int32) (x4 : Int32) (h : HH) : Int32 × HH := B_M_write_141 fz x1 x2 x3 x4 (u2 h 27 11 ((h 27 11) + (1 : Int32)))
def P_M_write_131 (fz : Nat) (x1 : Int32) (x2 : Int32) (x3 : Int32) (x4 : Int32) (h : HH) : Prop := P_M_write_141 fz x1 x2 x3 x4 (u2 h 27 11 ((h 27 11) + (1 : Int32)))
def B_M_write_123 (fz : Nat) (x1 : Int32) (x2 : Int32) (x3 : Int32) (x4 : Int32) (h : HH) : Int32 × HH := B_M_write_131 fz x1 x2 x3 x4 (u2 h 36 (ix x4) (1 : Int32))
def P_M_write_123 (fz : Nat) (x1 : Int32) (x2 : Int32) (x3 : Int32) (x4 : Int32) (h : HH) : Prop := vp_in x4 16 ∧ (P_M_write_131 fz x1 x2 x3 x4 (u2 h 36 (ix x4) (1 : Int32)))
def B_M_write (fz : Nat) (x1 : Int32) (x2 : Int32) (x3 : Int32) (h : HH) : Int32 × HH := if (B_M_isNode fz x1 h) = 0 then (((-1 : Int32), h)) else (if (B_M_isBlock fz x2 h) = 0 then (((-1 : Int32), h)) else (if (h 42 (ix x1)) = 0 then (((-2 : Int32), h)) else (if (h 43 (ix x1)) = 0 then (((-3 : Int32), h)) else (if (h 27 0) = (300 : Int32) then (((-4 : Int32), h)) else (if (B_M_pending fz x1 (0 : Int32) (31 : Int32) h) < (8 : Int32) then (if (h 36 (ix (((8 : Int32) * x1) + (x2 / (4 : Int32))))) = 0 then (if (B_M_inLog fz x1 h) = (3 : Int32) then (if 0 ≤ (B_M_idle fz x1 h) then (B_M_write_123 fz x1 x2 x3 (((8 : Int32) * x1) + (x2 / (4 : Int32))) (u2 h 36 (ix (((8 : Int32) * x1) + (B_M_idle fz x1 h))) (0 : Int32))) else (((-5 : Int32), h))) else (B_M_write_123 fz x1 x2 x3 (((8 : Int32) * x1) + (x2 / (4 : Int32))) h)) else (B_M_write_123 fz x1 x2 x3 (((8 : Int32) * x1) + (x2 / (4 : Int32))) h)) else (((-4 : Int32), h)))))))
def P_M_write (fz : Nat) (x1 : Int32) (x2 : Int32) (x3 : Int32) (h : HH) : Prop := P_M_isNode fz x1 h ∧ (((B_M_isNode fz x1 h) = 0 → (True)) ∧ (¬ (B_M_isNode fz x1 h) = 0 → (P_M_isBlock fz x2 h ∧ (((B_M_isBlock fz x2 h) = 0 → (True)) ∧ (¬ (B_M_isBlock fz x2 h) = 0 → (vp_in x1 2 ∧ (((h 42 (ix x1)) = 0 → (True)) ∧ (¬ (h 42 (ix x1)) = 0 → (vp_in x1 2 ∧ (((h 43 (ix x1)) = 0 → (True)) ∧ (¬ (h 43 (ix x1)) = 0 → (((h 27 0) = (300 : Int32) → (True)) ∧ (¬ (h 27 0) = (300 : Int32) → (P_M_pending fz x1 (0 : Int32) (31 : Int32) h ∧ (((B_M_pending fz x1 (0 : Int32) (31 : Int32) h) < (8 : Int32) → (vp_in (((8 : Int32) * x1) + (x2 / (4 : Int32))) 16 ∧ (((h 36 (ix (((8 : Int32) * x1) + (x2 / (4 : Int32))))) = 0 → (P_M_inLog fz x1 h ∧ (((B_M_inLog fz x1 h) = (3 : Int32) → (P_M_idle fz x1 h ∧ ((0 ≤ (B_M_idle fz x1 h) → (vp_in (((8 : Int32) * x1) + (B_M_idle fz x1 h)) 16 ∧ (P_M_write_123 fz x1 x2 x3 (((8 : Int32) * x1) + (x2 / (4 : Int32))) (u2 h 36 (ix (((8 : Int32) * x1) + (B_M_idle fz x1 h))) (0 : Int32))))) ∧ (¬ 0 ≤ (B_M_idle fz x1 h) → (True))))) ∧ (¬ (B_M_inLog fz x1 h) = (3 : Int32) → (P_M_write_123 fz x1 x2 x3 (((8 : Int32) * x1) + (x2 / (4 : Int32))) h))))) ∧ (¬ (h 36 (ix (((8 : Int32) * x1) + (x2 / (4 : Int32))))) = 0 → (P_M_write_123 fz x1 x2 x3 (((8 : Int32) * x1) + (x2 / (4 : Int32))) h))))) ∧ (¬ (B_M_pending fz x1 (0 : Int32) (31 : Int32) h) < (8 : Int32) → (True)))))))))))))))))
def B_M_barrier (fz : Nat) (x1 : Int32) (h : HH) : Int32 × HH := if (B_M_isNode fz x1 h) = 0 then (((0 : Int32), h)) else (if (h 42 (ix x1)) = 0 then (((0 : Int32), h)) else (if (h 43 (ix x1)) = 0 then (((0 : Int32), h)) else (((1 : Int32), (u2 h 46 (ix x1) (1 : Int32))))))
def P_M_barrier (fz : Nat) (x1 : Int32) (h : HH) : Prop := P_M_isNode fz x1 h ∧ (((B_M_isNode fz x1 h) = 0 → (True)) ∧ (¬ (B_M_isNode fz x1 h) = 0 → (vp_in x1 2 ∧ (((h 42 (ix x1)) = 0 → (True)) ∧ (¬ (h 42 (ix x1)) = 0 → (vp_in x1 2 ∧ (((h 43 (ix x1)) = 0 → (True)) ∧ (¬ (h 43 (ix x1)) = 0 → (vp_in x1 2 ∧ (True))))))))))
def B_M_arrive_139 (fz : Nat) : Nat → Int32 → Int32 → Int32 → HH → HH
  | 0, _, _, _, h => h
  | fu + 1, x1, x3, x5, h => if (32 : Int32) ≤ x5 then ((u2 (u2 h 38 (ix x1) x3) 39 (ix x1) (0 : Int32))) else (B_M_arrive_139 fz fu x1 x3 (x5 + 1) (u2 h 35 (ix (((32 : Int32) * x1) + x5)) (0 : Int32)))
def P_M_arrive_139 (fz : Nat) : Nat → Int32 → Int32 → Int32 → HH → Prop
  | 0, _, _, _, _ => False
  | fu + 1, x1, x3, x5, h => ((32 : Int32) ≤ x5 → (vp_in x1 2 ∧ (vp_in x1 2 ∧ (True)))) ∧ (¬ (32 : Int32) ≤ x5 → (vp_in (((32 : Int32) * x1) + x5) 64 ∧ (P_M_arrive_139 fz fu x1 x3 (x5 + 1) (u2 h 35 (ix (((32 : Int32) * x1) + x5)) (0 : Int32)))))
def B_M_arrive_107 (fz : Nat) (x1 : Int32) (h : HH) : HH := (B_M_endIfEmpty fz x1 h)
def P_M_arrive_107 (fz : Nat) (x1 : Int32) (h : HH) : Prop := P_M_endIfEmpty fz x1 h ∧ (True)
def B_M_arrive_79 (fz : Nat) (x1 : Int32) (x3 : Int32) (h : HH) : HH := (B_M_send fz x1 (4 : Int32) x3 (0 : Int32) h)
def P_M_arrive_79 (fz : Nat) (x1 : Int32) (x3 : Int32) (h : HH) : Prop := P_M_send fz x1 (4 : Int32) x3 (0 : Int32) h ∧ (True)
def B_M_arrive_53 (fz : Nat) (x1 : Int32) (h : HH) : HH := (B_M_endIfEmpty fz x1 h)
def P_M_arrive_53 (fz : Nat) (x1 : Int32) (h : HH) : Prop := P_M_endIfEmpty fz x1 h ∧ (True)
def B_M_arrive_27 (fz : Nat) (x1 : Int32) (x3 : Int32) (h : HH) : HH := if (h 44 (ix x1)) = 0 then (h) else (B_M_arrive_53 fz x1 (u2 h 35 (ix (((32 : Int32) * x1) + (h 29 (ix x3)))) (0 : Int32)))
def P_M_arrive_27 (fz : Nat) (x1 : Int32) (x3 : Int32) (h : HH) : Prop := vp_in x1 2 ∧ (((h 44 (ix x1)) = 0 → (True)) ∧ (¬ (h 44 (ix x1)) = 0 → (vp_in x3 301 ∧ (vp_in (((32 : Int32) * x1) + (h 29 (ix x3))) 64 ∧ (P_M_arrive_53 fz x1 (u2 h 35 (ix (((32 : Int32) * x1) + (h 29 (ix x3)))) (0 : Int32)))))))
def B_M_arrive (fz : Nat) (x1 : Int32) (x2 : Int32) (x3 : Int32) (x4 : Int32) (h : HH) : HH := if x2 = (1 : Int32) then ((u2 h 33 (ix x3) (1 : Int32))) else (if x2 = (2 : Int32) then (B_M_arrive_27 fz x1 x3 (u2 h 32 (ix x3) (2 : Int32))) else (if x2 = (3 : Int32) then (B_M_arrive_79 fz x1 x3 (u2 h 34 (ix (((32 : Int32) * x1) + x3)) x4)) else (if x2 = (4 : Int32) then (B_M_arrive_107 fz x1 (u2 h 35 (ix (((32 : Int32) * x1) + x3)) (0 : Int32))) else (B_M_arrive_139 fz fz x1 x3 (0 : Int32) (u2 (u2 (u2 h 45 (ix x1) (0 : Int32)) 40 (ix x1) (0 : Int32)) 41 (ix x1) (0 : Int32))))))
def P_M_arrive (fz : Nat) (x1 : Int32) (x2 : Int32) (x3 : Int32) (x4 : Int32) (h : HH) : Prop := (x2 = (1 : Int32) → (vp_in x3 301 ∧ (True))) ∧ (¬ x2 = (1 : Int32) → ((x2 = (2 : Int32) → (vp_in x3 301 ∧ (P_M_arrive_27 fz x1 x3 (u2 h 32 (ix x3) (2 : Int32))))) ∧ (¬ x2 = (2 : Int32) → ((x2 = (3 : Int32) → (vp_in (((32 : Int32) * x1) + x3) 64 ∧ (P_M_arrive_79 fz x1 x3 (u2 h 34 (ix (((32 : Int32) * x1) + x3)) x4)))) ∧ (¬ x2 = (3 : Int32) → ((x2 = (4 : Int32) → (vp_in (((32 : Int32) * x1) + x3) 64 ∧ (P_M_arrive_107 fz x1 (u2 h 35 (ix (((32 : Int32) * x1) + x3)) (0 : Int32))))) ∧ (¬ x2 = (4 : Int32) → (vp_in x1 2 ∧ (vp_in x1 2 ∧ (vp_in x1 2 ∧ (P_M_arrive_139 fz fz x1 x3 (0 : Int32) (u2 (u2 (u2 h 45 (ix x1) (0 : Int32)) 40 (ix x1) (0 : Int32)) 41 (ix x1) (0 : Int32)))))))))))))
def B_M_deliver_59 (fz : Nat) : Nat → Int32 → Int32 → Int32 → Int32 → Int32 → Int32 → HH → Int32 × HH
  | 0, _, _, _, _, _, _, h => (0, h)
  | fu + 1, x1, x2, x3, x4, x5, x6, h => if (x2 + (h 51 (ix x1))) ≤ x6 then ((x3, (B_M_arrive fz ((1 : Int32) - x1) x3 x4 x5 h))) else (B_M_deliver_59 fz fu x1 x2 x3 x4 x5 (x6 + 1) (u2 (u2 (u2 h 48 (ix x6) (h 48 (ix (x6 + (1 : Int32))))) 49 (ix x6) ((u2 h 48 (ix x6) (h 48 (ix (x6 + (1 : Int32))))) 49 (ix (x6 + (1 : Int32))))) 50 (ix x6) ((u2 (u2 h 48 (ix x6) (h 48 (ix (x6 + (1 : Int32))))) 49 (ix x6) ((u2 h 48 (ix x6) (h 48 (ix (x6 + (1 : Int32))))) 49 (ix (x6 + (1 : Int32))))) 50 (ix (x6 + (1 : Int32))))))
def P_M_deliver_59 (fz : Nat) : Nat → Int32 → Int32 → Int32 → Int32 → Int32 → Int32 → HH → Prop
  | 0, _, _, _, _, _, _, _ => False
  | fu + 1, x1, x2, x3, x4, x5, x6, h => vp_in x1 2 ∧ (((x2 + (h 51 (ix x1))) ≤ x6 → (P_M_arrive fz ((1 : Int32) - x1) x3 x4 x5 h ∧ (True))) ∧ (¬ (x2 + (h 51 (ix x1))) ≤ x6 → (vp_in (x6 + (1 : Int32)) 128 ∧ (vp_in x6 128 ∧ (vp_in (x6 + (1 : Int32)) 128 ∧ (vp_in x6 128 ∧ (vp_in (x6 + (1 : Int32)) 128 ∧ (vp_in x6 128 ∧ (P_M_deliver_59 fz fu x1 x2 x3 x4 x5 (x6 + 1) (u2 (u2 (u2 h 48 (ix x6) (h 48 (ix (x6 + (1 : Int32))))) 49 (ix x6) ((u2 h 48 (ix x6) (h 48 (ix (x6 + (1 : Int32))))) 49 (ix (x6 + (1 : Int32))))) 50 (ix x6) ((u2 (u2 h 48 (ix x6) (h 48 (ix (x6 + (1 : Int32))))) 49 (ix x6) ((u2 h 48 (ix x6) (h 48 (ix (x6 + (1 : Int32))))) 49 (ix (x6 + (1 : Int32))))) 50 (ix (x6 + (1 : Int32))))))))))))))
def B_M_deliver_56 (fz : Nat) (x1 : Int32) (x2 : Int32) (x3 : Int32) (x4 : Int32) (x5 : Int32) (h : HH) : Int32 × HH := B_M_deliver_59 fz fz x1 x2 x3 x4 x5 x2 h
def P_M_deliver_56 (fz : Nat) (x1 : Int32) (x2 : Int32) (x3 : Int32) (x4 : Int32) (x5 : Int32) (h : HH) : Prop := P_M_deliver_59 fz fz x1 x2 x3 x4 x5 x2 h
def B_M_deliver (fz : Nat) (x1 : Int32) (h : HH) : Int32 × HH := if (B_M_isNode fz x1 h) = 0 then (((0 : Int32), h)) else (if (h 51 (ix x1)) = 0 then (((0 : Int32), h)) else (B_M_deliver_56 fz x1 ((64 : Int32) * x1) (h 48 (ix ((64 : Int32) * x1))) (h 49 (ix ((64 : Int32) * x1))) (h 50 (ix ((64 : Int32) * x1))) (u2 h 51 (ix x1) ((h 51 (ix x1)) - (1 : Int32)))))
def P_M_deliver (fz : Nat) (x1 : Int32) (h : HH) : Prop := P_M_isNode fz x1 h ∧ (((B_M_isNode fz x1 h) = 0 → (True)) ∧ (¬ (B_M_isNode fz x1 h) = 0 → (vp_in x1 2 ∧ (((h 51 (ix x1)) = 0 → (True)) ∧ (¬ (h 51 (ix x1)) = 0 → (vp_in ((64 : Int32) * x1) 128 ∧ (vp_in ((64 : Int32) * x1) 128 ∧ (vp_in ((64 : Int32) * x1) 128 ∧ (vp_in x1 2 ∧ (vp_in x1 2 ∧ (P_M_deliver_56 fz x1 ((64 : Int32) * x1) (h 48 (ix ((64 : Int32) * x1))) (h 49 (ix ((64 : Int32) * x1))) (h 50 (ix ((64 : Int32) * x1))) (u2 h 51 (ix x1) ((h 51 (ix x1)) - (1 : Int32))))))))))))))
def B_M_store_114 (fz : Nat) (x1 : Int32) (x5 : Int32) (h : HH) : Int32 × HH := (x5, (B_M_send fz x1 (2 : Int32) x5 (0 : Int32) h))
def P_M_store_114 (fz : Nat) (x1 : Int32) (x5 : Int32) (h : HH) : Prop := P_M_send fz x1 (2 : Int32) x5 (0 : Int32) h ∧ (True)
def B_M_store_90 (fz : Nat) (x1 : Int32) (x5 : Int32) (h : HH) : Int32 × HH := B_M_store_114 fz x1 x5 (u2 h 34 (ix (((32 : Int32) * x1) + (h 29 (ix x5)))) (h 30 (ix x5)))
def P_M_store_90 (fz : Nat) (x1 : Int32) (x5 : Int32) (h : HH) : Prop := vp_in x5 301 ∧ (vp_in x5 301 ∧ (vp_in (((32 : Int32) * x1) + (h 29 (ix x5))) 64 ∧ (P_M_store_114 fz x1 x5 (u2 h 34 (ix (((32 : Int32) * x1) + (h 29 (ix x5)))) (h 30 (ix x5))))))
def B_M_store_21 (fz : Nat) : Nat → Int32 → Int32 → Int32 → Int32 → Int32 → HH → Int32 × HH
  | 0, _, _, _, _, _, h => (0, h)
  | fu + 1, x1, x2, x3, x4, x5, h => if (h 27 0) < x5 then (((0 : Int32), h)) else (if (h 33 (ix x5)) = 0 then (B_M_store_21 fz fu x1 x2 x3 x4 (x5 + 1) h) else (if (h 28 (ix x5)) = ((1 : Int32) - x1) then (if x3 = 0 then (if (h 31 (ix x5)) = (h 31 (ix x5)) then (if x4 = x2 then (B_M_store_90 fz x1 x5 (u2 h 33 (ix x5) (0 : Int32))) else (B_M_store_21 fz fu x1 x2 x5 (x4 + 1) (x5 + 1) h)) else (B_M_store_21 fz fu x1 x2 x5 x4 (x5 + 1) h)) else (if (h 31 (ix x5)) = (h 31 (ix x3)) then (if x4 = x2 then (B_M_store_90 fz x1 x5 (u2 h 33 (ix x5) (0 : Int32))) else (B_M_store_21 fz fu x1 x2 x3 (x4 + 1) (x5 + 1) h)) else (B_M_store_21 fz fu x1 x2 x3 x4 (x5 + 1) h))) else (B_M_store_21 fz fu x1 x2 x3 x4 (x5 + 1) h)))
def P_M_store_21 (fz : Nat) : Nat → Int32 → Int32 → Int32 → Int32 → Int32 → HH → Prop
  | 0, _, _, _, _, _, _ => False
  | fu + 1, x1, x2, x3, x4, x5, h => ((h 27 0) < x5 → (True)) ∧ (¬ (h 27 0) < x5 → (vp_in x5 301 ∧ (((h 33 (ix x5)) = 0 → (P_M_store_21 fz fu x1 x2 x3 x4 (x5 + 1) h)) ∧ (¬ (h 33 (ix x5)) = 0 → (vp_in x5 301 ∧ (((h 28 (ix x5)) = ((1 : Int32) - x1) → ((x3 = 0 → (vp_in x5 301 ∧ (vp_in x5 301 ∧ (((h 31 (ix x5)) = (h 31 (ix x5)) → ((x4 = x2 → (vp_in x5 301 ∧ (P_M_store_90 fz x1 x5 (u2 h 33 (ix x5) (0 : Int32))))) ∧ (¬ x4 = x2 → (P_M_store_21 fz fu x1 x2 x5 (x4 + 1) (x5 + 1) h)))) ∧ (¬ (h 31 (ix x5)) = (h 31 (ix x5)) → (P_M_store_21 fz fu x1 x2 x5 x4 (x5 + 1) h)))))) ∧ (¬ x3 = 0 → (vp_in x5 301 ∧ (vp_in x3 301 ∧ (((h 31 (ix x5)) = (h 31 (ix x3)) → ((x4 = x2 → (vp_in x5 301 ∧ (P_M_store_90 fz x1 x5 (u2 h 33 (ix x5) (0 : Int32))))) ∧ (¬ x4 = x2 → (P_M_store_21 fz fu x1 x2 x3 (x4 + 1) (x5 + 1) h)))) ∧ (¬ (h 31 (ix x5)) = (h 31 (ix x3)) → (P_M_store_21 fz fu x1 x2 x3 x4 (x5 + 1) h)))))))) ∧ (¬ (h 28 (ix x5)) = ((1 : Int32) - x1) → (P_M_store_21 fz fu x1 x2 x3 x4 (x5 + 1) h))))))))
def B_M_store (fz : Nat) (x1 : Int32) (x2 : Int32) (h : HH) : Int32 × HH := if (B_M_isNode fz x1 h) = 0 then (((0 : Int32), h)) else (if 0 ≤ x2 then (B_M_store_21 fz fz x1 x2 (0 : Int32) (0 : Int32) (1 : Int32) h) else (((0 : Int32), h)))
def P_M_store (fz : Nat) (x1 : Int32) (x2 : Int32) (h : HH) : Prop := P_M_isNode fz x1 h ∧ (((B_M_isNode fz x1 h) = 0 → (True)) ∧ (¬ (B_M_isNode fz x1 h) = 0 → ((0 ≤ x2 → (P_M_store_21 fz fz x1 x2 (0 : Int32) (0 : Int32) (1 : Int32) h)) ∧ (¬ 0 ≤ x2 → (True)))))
def B_M_copy_30 (fz : Nat) : Nat → Int32 → Int32 → HH → Int32 × HH
  | 0, _, _, h => (0, h)
  | fu + 1, x1, x2, h => if (32 : Int32) ≤ x2 then (((-1 : Int32), h)) else (if (h 35 (ix (((32 : Int32) * x1) + x2))) = 0 then (B_M_copy_30 fz fu x1 (x2 + 1) h) else (if (B_M_underWay fz x1 x2 h) = 0 then (if (B_M_pending fz x1 x2 x2 h) = 0 then ((x2, (B_M_send fz x1 (3 : Int32) x2 (h 34 (ix (((32 : Int32) * x1) + x2))) h))) else (B_M_copy_30 fz fu x1 (x2 + 1) h)) else (B_M_copy_30 fz fu x1 (x2 + 1) h)))
def P_M_copy_30 (fz : Nat) : Nat → Int32 → Int32 → HH → Prop
  | 0, _, _, _ => False
  | fu + 1, x1, x2, h => ((32 : Int32) ≤ x2 → (True)) ∧ (¬ (32 : Int32) ≤ x2 → (vp_in (((32 : Int32) * x1) + x2) 64 ∧ (((h 35 (ix (((32 : Int32) * x1) + x2))) = 0 → (P_M_copy_30 fz fu x1 (x2 + 1) h)) ∧ (¬ (h 35 (ix (((32 : Int32) * x1) + x2))) = 0 → (P_M_underWay fz x1 x2 h ∧ (((B_M_underWay fz x1 x2 h) = 0 → (P_M_pending fz x1 x2 x2 h ∧ (((B_M_pending fz x1 x2 x2 h) = 0 → (vp_in (((32 : Int32) * x1) + x2) 64 ∧ (P_M_send fz x1 (3 : Int32) x2 (h 34 (ix (((32 : Int32) * x1) + x2))) h ∧ (True)))) ∧ (¬ (B_M_pending fz x1 x2 x2 h) = 0 → (P_M_copy_30 fz fu x1 (x2 + 1) h))))) ∧ (¬ (B_M_underWay fz x1 x2 h) = 0 → (P_M_copy_30 fz fu x1 (x2 + 1) h))))))))
def B_M_copy (fz : Nat) (x1 : Int32) (h : HH) : Int32 × HH := if (B_M_isNode fz x1 h) = 0 then (((-1 : Int32), h)) else (if (h 44 (ix x1)) = 0 then (((-1 : Int32), h)) else (if (B_M_underWay fz x1 (-1 : Int32) h) < (4 : Int32) then (B_M_copy_30 fz fz x1 (0 : Int32) h) else (((-1 : Int32), h))))
def P_M_copy (fz : Nat) (x1 : Int32) (h : HH) : Prop := P_M_isNode fz x1 h ∧ (((B_M_isNode fz x1 h) = 0 → (True)) ∧ (¬ (B_M_isNode fz x1 h) = 0 → (vp_in x1 2 ∧ (((h 44 (ix x1)) = 0 → (True)) ∧ (¬ (h 44 (ix x1)) = 0 → (P_M_underWay fz x1 (-1 : Int32) h ∧ (((B_M_underWay fz x1 (-1 : Int32) h) < (4 : Int32) → (P_M_copy_30 fz fz x1 (0 : Int32) h)) ∧ (¬ (B_M_underWay fz x1 (-1 : Int32) h) < (4 : Int32) → (True)))))))))
def B_M_chosen_18 (fz : Nat)  (h : HH) : Int32 := if (h 40 (ix (0 : Int32))) = 0 then ((0 : Int32)) else ((1 : Int32))
def P_M_chosen_18 (fz : Nat)  (h : HH) : Prop := vp_in (0 : Int32) 2 ∧ (((h 40 (ix (0 : Int32))) = 0 → (True)) ∧ (¬ (h 40 (ix (0 : Int32))) = 0 → (True)))
def B_M_chosen_125 (fz : Nat)  (h : HH) : Int32 := if (h 43 (ix (0 : Int32))) = (h 43 (ix (1 : Int32))) then (if (h 41 (ix (0 : Int32))) = 0 then ((1 : Int32)) else ((0 : Int32))) else (if (h 43 (ix (0 : Int32))) = 0 then ((1 : Int32)) else ((0 : Int32)))
def P_M_chosen_125 (fz : Nat)  (h : HH) : Prop := vp_in (0 : Int32) 2 ∧ (vp_in (1 : Int32) 2 ∧ (((h 43 (ix (0 : Int32))) = (h 43 (ix (1 : Int32))) → (vp_in (0 : Int32) 2 ∧ (((h 41 (ix (0 : Int32))) = 0 → (True)) ∧ (¬ (h 41 (ix (0 : Int32))) = 0 → (True))))) ∧ (¬ (h 43 (ix (0 : Int32))) = (h 43 (ix (1 : Int32))) → (vp_in (0 : Int32) 2 ∧ (((h 43 (ix (0 : Int32))) = 0 → (True)) ∧ (¬ (h 43 (ix (0 : Int32))) = 0 → (True)))))))
def B_M_chosen_74 (fz : Nat)  (h : HH) : Int32 := if (h 39 (ix (1 : Int32))) = 0 then ((-8 : Int32)) else (if (h 39 (ix (1 : Int32))) = (h 38 (ix (0 : Int32))) then ((1 : Int32)) else ((-8 : Int32)))
def P_M_chosen_74 (fz : Nat)  (h : HH) : Prop := vp_in (1 : Int32) 2 ∧ (((h 39 (ix (1 : Int32))) = 0 → (True)) ∧ (¬ (h 39 (ix (1 : Int32))) = 0 → (vp_in (1 : Int32) 2 ∧ (vp_in (0 : Int32) 2 ∧ (((h 39 (ix (1 : Int32))) = (h 38 (ix (0 : Int32))) → (True)) ∧ (¬ (h 39 (ix (1 : Int32))) = (h 38 (ix (0 : Int32))) → (True)))))))
def B_M_chosen (fz : Nat)  (h : HH) : Int32 := if (h 40 (ix (0 : Int32))) = 0 then (if (h 40 (ix (1 : Int32))) = 0 then (if (h 38 (ix (0 : Int32))) = (h 38 (ix (1 : Int32))) then (if (h 41 (ix (0 : Int32))) = 0 then (if (h 41 (ix (1 : Int32))) = 0 then ((-1 : Int32)) else (B_M_chosen_125 fz  h)) else (B_M_chosen_125 fz  h)) else (if (h 39 (ix (0 : Int32))) = 0 then (B_M_chosen_74 fz  h) else (if (h 39 (ix (0 : Int32))) = (h 38 (ix (1 : Int32))) then ((0 : Int32)) else (B_M_chosen_74 fz  h)))) else (B_M_chosen_18 fz  h)) else (B_M_chosen_18 fz  h)
def P_M_chosen (fz : Nat)  (h : HH) : Prop := vp_in (0 : Int32) 2 ∧ (((h 40 (ix (0 : Int32))) = 0 → (vp_in (1 : Int32) 2 ∧ (((h 40 (ix (1 : Int32))) = 0 → (vp_in (0 : Int32) 2 ∧ (vp_in (1 : Int32) 2 ∧ (((h 38 (ix (0 : Int32))) = (h 38 (ix (1 : Int32))) → (vp_in (0 : Int32) 2 ∧ (((h 41 (ix (0 : Int32))) = 0 → (vp_in (1 : Int32) 2 ∧ (((h 41 (ix (1 : Int32))) = 0 → (True)) ∧ (¬ (h 41 (ix (1 : Int32))) = 0 → (P_M_chosen_125 fz  h))))) ∧ (¬ (h 41 (ix (0 : Int32))) = 0 → (P_M_chosen_125 fz  h))))) ∧ (¬ (h 38 (ix (0 : Int32))) = (h 38 (ix (1 : Int32))) → (vp_in (0 : Int32) 2 ∧ (((h 39 (ix (0 : Int32))) = 0 → (P_M_chosen_74 fz  h)) ∧ (¬ (h 39 (ix (0 : Int32))) = 0 → (vp_in (0 : Int32) 2 ∧ (vp_in (1 : Int32) 2 ∧ (((h 39 (ix (0 : Int32))) = (h 38 (ix (1 : Int32))) → (True)) ∧ (¬ (h 39 (ix (0 : Int32))) = (h 38 (ix (1 : Int32))) → (P_M_chosen_74 fz  h))))))))))))) ∧ (¬ (h 40 (ix (1 : Int32))) = 0 → (P_M_chosen_18 fz  h))))) ∧ (¬ (h 40 (ix (0 : Int32))) = 0 → (P_M_chosen_18 fz  h)))
def B_M_connect_232 (fz : Nat) (x1 : Int32) (h : HH) : Int32 × HH := (((1 : Int32) + x1), (B_M_endIfEmpty fz x1 h))
def P_M_connect_232 (fz : Nat) (x1 : Int32) (h : HH) : Prop := P_M_endIfEmpty fz x1 h ∧ (True)
def B_M_connect_147 (fz : Nat) : Nat → Int32 → Int32 → Int32 → Int32 → HH → Int32 × HH
  | 0, _, _, _, _, h => (0, h)
  | fu + 1, x1, x2, x3, x4, h => if (32 : Int32) ≤ x4 then (B_M_connect_232 fz x1 (u2 (u2 (u2 h 44 (ix x1) (1 : Int32)) 45 (ix x2) (1 : Int32)) 40 (ix x2) (1 : Int32))) else (if x3 = 0 then (if (h 35 (ix (((32 : Int32) * x1) + x4))) = 0 then (if (h 35 (ix (((32 : Int32) * x2) + x4))) = 0 then (B_M_connect_147 fz fu x1 x2 x3 (x4 + 1) (u2 h 35 (ix (((32 : Int32) * x1) + x4)) (0 : Int32))) else (B_M_connect_147 fz fu x1 x2 x3 (x4 + 1) (u2 h 35 (ix (((32 : Int32) * x1) + x4)) (1 : Int32)))) else (B_M_connect_147 fz fu x1 x2 x3 (x4 + 1) (u2 h 35 (ix (((32 : Int32) * x1) + x4)) (1 : Int32)))) else (B_M_connect_147 fz fu x1 x2 x3 (x4 + 1) (u2 h 35 (ix (((32 : Int32) * x1) + x4)) (1 : Int32))))
def P_M_connect_147 (fz : Nat) : Nat → Int32 → Int32 → Int32 → Int32 → HH → Prop
  | 0, _, _, _, _, _ => False
  | fu + 1, x1, x2, x3, x4, h => ((32 : Int32) ≤ x4 → (vp_in x1 2 ∧ (vp_in x2 2 ∧ (vp_in x2 2 ∧ (P_M_connect_232 fz x1 (u2 (u2 (u2 h 44 (ix x1) (1 : Int32)) 45 (ix x2) (1 : Int32)) 40 (ix x2) (1 : Int32))))))) ∧ (¬ (32 : Int32) ≤ x4 → ((x3 = 0 → (vp_in (((32 : Int32) * x1) + x4) 64 ∧ (((h 35 (ix (((32 : Int32) * x1) + x4))) = 0 → (vp_in (((32 : Int32) * x2) + x4) 64 ∧ (((h 35 (ix (((32 : Int32) * x2) + x4))) = 0 → (vp_in (((32 : Int32) * x1) + x4) 64 ∧ (P_M_connect_147 fz fu x1 x2 x3 (x4 + 1) (u2 h 35 (ix (((32 : Int32) * x1) + x4)) (0 : Int32))))) ∧ (¬ (h 35 (ix (((32 : Int32) * x2) + x4))) = 0 → (vp_in (((32 : Int32) * x1) + x4) 64 ∧ (P_M_connect_147 fz fu x1 x2 x3 (x4 + 1) (u2 h 35 (ix (((32 : Int32) * x1) + x4)) (1 : Int32)))))))) ∧ (¬ (h 35 (ix (((32 : Int32) * x1) + x4))) = 0 → (vp_in (((32 : Int32) * x1) + x4) 64 ∧ (P_M_connect_147 fz fu x1 x2 x3 (x4 + 1) (u2 h 35 (ix (((32 : Int32) * x1) + x4)) (1 : Int32)))))))) ∧ (¬ x3 = 0 → (vp_in (((32 : Int32) * x1) + x4) 64 ∧ (P_M_connect_147 fz fu x1 x2 x3 (x4 + 1) (u2 h 35 (ix (((32 : Int32) * x1) + x4)) (1 : Int32)))))))
def B_M_connect_143 (fz : Nat) (x1 : Int32) (x2 : Int32) (y0 : Int32) (h : HH) : Int32 × HH := B_M_connect_147 fz fz x1 x2 y0 (0 : Int32) h
def P_M_connect_143 (fz : Nat) (x1 : Int32) (x2 : Int32) (y0 : Int32) (h : HH) : Prop := P_M_connect_147 fz fz x1 x2 y0 (0 : Int32) h
def B_M_connect_138 (fz : Nat) (x1 : Int32) (x2 : Int32) (h : HH) : Int32 × HH := B_M_connect_143 fz x1 x2 (1 : Int32) h
def P_M_connect_138 (fz : Nat) (x1 : Int32) (x2 : Int32) (h : HH) : Prop := P_M_connect_143 fz x1 x2 (1 : Int32) h
def B_M_connect_142 (fz : Nat) (x1 : Int32) (x2 : Int32) (h : HH) : Int32 × HH := B_M_connect_143 fz x1 x2 (0 : Int32) h
def P_M_connect_142 (fz : Nat) (x1 : Int32) (x2 : Int32) (h : HH) : Prop := P_M_connect_143 fz x1 x2 (0 : Int32) h
def B_M_connect_95 (fz : Nat) (x1 : Int32) (h : HH) : Int32 × HH := if (h 38 (ix ((1 : Int32) - x1))) = 0 then (B_M_connect_138 fz x1 ((1 : Int32) - x1) h) else (if (h 38 (ix ((1 : Int32) - x1))) = (h 38 (ix x1)) then (B_M_connect_142 fz x1 ((1 : Int32) - x1) h) else (if (h 38 (ix ((1 : Int32) - x1))) = (h 39 (ix x1)) then (B_M_connect_142 fz x1 ((1 : Int32) - x1) h) else (B_M_connect_138 fz x1 ((1 : Int32) - x1) h)))
def P_M_connect_95 (fz : Nat) (x1 : Int32) (h : HH) : Prop := vp_in ((1 : Int32) - x1) 2 ∧ (((h 38 (ix ((1 : Int32) - x1))) = 0 → (P_M_connect_138 fz x1 ((1 : Int32) - x1) h)) ∧ (¬ (h 38 (ix ((1 : Int32) - x1))) = 0 → (vp_in ((1 : Int32) - x1) 2 ∧ (vp_in x1 2 ∧ (((h 38 (ix ((1 : Int32) - x1))) = (h 38 (ix x1)) → (P_M_connect_142 fz x1 ((1 : Int32) - x1) h)) ∧ (¬ (h 38 (ix ((1 : Int32) - x1))) = (h 38 (ix x1)) → (vp_in ((1 : Int32) - x1) 2 ∧ (vp_in x1 2 ∧ (((h 38 (ix ((1 : Int32) - x1))) = (h 39 (ix x1)) → (P_M_connect_142 fz x1 ((1 : Int32) - x1) h)) ∧ (¬ (h 38 (ix ((1 : Int32) - x1))) = (h 39 (ix x1)) → (P_M_connect_138 fz x1 ((1 : Int32) - x1) h)))))))))))
def B_M_connect_84 (fz : Nat) (x1 : Int32) (h : HH) : Int32 × HH := if 0 ≤ x1 then (B_M_connect_95 fz x1 (u2 h 27 23 (1 : Int32))) else (((0 : Int32), (u2 h 27 23 (1 : Int32))))
def P_M_connect_84 (fz : Nat) (x1 : Int32) (h : HH) : Prop := (0 ≤ x1 → (P_M_connect_95 fz x1 (u2 h 27 23 (1 : Int32)))) ∧ (¬ 0 ≤ x1 → (True))
def B_M_connect_52 (fz : Nat)  (h : HH) : Int32 × HH := if (B_M_chosen fz  h) = (-8 : Int32) then (((-8 : Int32), h)) else (if (B_M_chosen fz  h) < 0 then (B_M_connect_84 fz (B_M_chosen fz  h) h) else (if (h 43 (ix ((1 : Int32) - (B_M_chosen fz  h)))) = 0 then (B_M_connect_84 fz (B_M_chosen fz  h) h) else (((-10 : Int32), h))))
def P_M_connect_52 (fz : Nat)  (h : HH) : Prop := P_M_chosen fz  h ∧ (((B_M_chosen fz  h) = (-8 : Int32) → (True)) ∧ (¬ (B_M_chosen fz  h) = (-8 : Int32) → (((B_M_chosen fz  h) < 0 → (P_M_connect_84 fz (B_M_chosen fz  h) h)) ∧ (¬ (B_M_chosen fz  h) < 0 → (vp_in ((1 : Int32) - (B_M_chosen fz  h)) 2 ∧ (((h 43 (ix ((1 : Int32) - (B_M_chosen fz  h)))) = 0 → (P_M_connect_84 fz (B_M_chosen fz  h) h)) ∧ (¬ (h 43 (ix ((1 : Int32) - (B_M_chosen fz  h)))) = 0 → (True))))))))
def B_M_connect (fz : Nat)  (h : HH) : Int32 × HH := if (h 42 (ix (0 : Int32))) = 0 then (((-2 : Int32), h)) else (if (h 42 (ix (1 : Int32))) = 0 then (((-2 : Int32), h)) else (if (h 27 23) = 0 then (if (h 43 (ix (0 : Int32))) = 0 then (B_M_connect_52 fz  h) else (if (h 43 (ix (1 : Int32))) = 0 then (B_M_connect_52 fz  h) else (((-7 : Int32), h)))) else (((-9 : Int32), h))))
def P_M_connect (fz : Nat)  (h : HH) : Prop := vp_in (0 : Int32) 2 ∧ (((h 42 (ix (0 : Int32))) = 0 → (True)) ∧ (¬ (h 42 (ix (0 : Int32))) = 0 → (vp_in (1 : Int32) 2 ∧ (((h 42 (ix (1 : Int32))) = 0 → (True)) ∧ (¬ (h 42 (ix (1 : Int32))) = 0 → (((h 27 23) = 0 → (vp_in (0 : Int32) 2 ∧ (((h 43 (ix (0 : Int32))) = 0 → (P_M_connect_52 fz  h)) ∧ (¬ (h 43 (ix (0 : Int32))) = 0 → (vp_in (1 : Int32) 2 ∧ (((h 43 (ix (1 : Int32))) = 0 → (P_M_connect_52 fz  h)) ∧ (¬ (h 43 (ix (1 : Int32))) = 0 → (True)))))))) ∧ (¬ (h 27 23) = 0 → (True))))))))
def B_M_cut (fz : Nat)  (h : HH) : Int32 × HH := if (h 27 23) = 0 then (((0 : Int32), h)) else (((1 : Int32), (B_M_breakLink fz  h)))
def P_M_cut (fz : Nat)  (h : HH) : Prop := ((h 27 23) = 0 → (True)) ∧ (¬ (h 27 23) = 0 → (P_M_breakLink fz  h ∧ (True)))
def B_M_crash_75 (fz : Nat)  (h : HH) : Int32 × HH := if (h 27 23) = 0 then (((1 : Int32), h)) else (((1 : Int32), (B_M_breakLink fz  h)))
def P_M_crash_75 (fz : Nat)  (h : HH) : Prop := ((h 27 23) = 0 → (True)) ∧ (¬ (h 27 23) = 0 → (P_M_breakLink fz  h ∧ (True)))
def B_M_crash_62 (fz : Nat) (x1 : Int32) (y1 : Int32) (h : HH) : Int32 × HH := B_M_crash_75 fz  (u2 (u2 h 41 (ix y1) (1 : Int32)) 43 (ix x1) (0 : Int32))
def P_M_crash_62 (fz : Nat) (x1 : Int32) (y1 : Int32) (h : HH) : Prop := vp_in y1 2 ∧ (vp_in x1 2 ∧ (P_M_crash_75 fz  (u2 (u2 h 41 (ix y1) (1 : Int32)) 43 (ix x1) (0 : Int32))))
def B_M_crash_39 (fz : Nat) (x1 : Int32) (h : HH) : Int32 × HH := if (h 41 (ix x1)) = 0 then (if (h 43 (ix x1)) = 0 then (B_M_crash_75 fz  (u2 (u2 h 41 (ix x1) (0 : Int32)) 43 (ix x1) (0 : Int32))) else (B_M_crash_62 fz x1 x1 h)) else (B_M_crash_62 fz x1 x1 h)
def P_M_crash_39 (fz : Nat) (x1 : Int32) (h : HH) : Prop := vp_in x1 2 ∧ (((h 41 (ix x1)) = 0 → (vp_in x1 2 ∧ (((h 43 (ix x1)) = 0 → (vp_in x1 2 ∧ (vp_in x1 2 ∧ (P_M_crash_75 fz  (u2 (u2 h 41 (ix x1) (0 : Int32)) 43 (ix x1) (0 : Int32)))))) ∧ (¬ (h 43 (ix x1)) = 0 → (P_M_crash_62 fz x1 x1 h))))) ∧ (¬ (h 41 (ix x1)) = 0 → (P_M_crash_62 fz x1 x1 h)))
def B_M_crash_32 (fz : Nat) (x1 : Int32) (h : HH) : Int32 × HH := B_M_crash_39 fz x1 (B_M_turnInto fz x1 (3 : Int32) (4 : Int32) h)
def P_M_crash_32 (fz : Nat) (x1 : Int32) (h : HH) : Prop := P_M_turnInto fz x1 (3 : Int32) (4 : Int32) h ∧ (P_M_crash_39 fz x1 (B_M_turnInto fz x1 (3 : Int32) (4 : Int32) h))
def B_M_crash_25 (fz : Nat) (x1 : Int32) (h : HH) : Int32 × HH := B_M_crash_32 fz x1 (B_M_turnInto fz x1 (1 : Int32) (4 : Int32) h)
def P_M_crash_25 (fz : Nat) (x1 : Int32) (h : HH) : Prop := P_M_turnInto fz x1 (1 : Int32) (4 : Int32) h ∧ (P_M_crash_32 fz x1 (B_M_turnInto fz x1 (1 : Int32) (4 : Int32) h))
def B_M_crash (fz : Nat) (x1 : Int32) (h : HH) : Int32 × HH := if (B_M_isNode fz x1 h) = 0 then (((0 : Int32), h)) else (if (h 42 (ix x1)) = 0 then (((0 : Int32), h)) else (B_M_crash_25 fz x1 (u2 h 42 (ix x1) (0 : Int32))))
def P_M_crash (fz : Nat) (x1 : Int32) (h : HH) : Prop := P_M_isNode fz x1 h ∧ (((B_M_isNode fz x1 h) = 0 → (True)) ∧ (¬ (B_M_isNode fz x1 h) = 0 → (vp_in x1 2 ∧ (((h 42 (ix x1)) = 0 → (True)) ∧ (¬ (h 42 (ix x1)) = 0 → (vp_in x1 2 ∧ (P_M_crash_25 fz x1 (u2 h 42 (ix x1) (0 : Int32)))))))))
def B_M_restart_27 (fz : Nat) : Nat → Int32 → Int32 → HH → Int32 × HH
  | 0, _, _, h => (0, h)
  | fu + 1, x1, x2, h => if (32 : Int32) ≤ x2 then (((1 : Int32), h)) else (if (h 41 (ix x1)) = 0 then (B_M_restart_27 fz fu x1 (x2 + 1) h) else (if (h 36 (ix (((8 : Int32) * x1) + (x2 / (4 : Int32))))) = 0 then (B_M_restart_27 fz fu x1 (x2 + 1) h) else (B_M_restart_27 fz fu x1 (x2 + 1) (u2 h 35 (ix (((32 : Int32) * x1) + x2)) (1 : Int32)))))
def P_M_restart_27 (fz : Nat) : Nat → Int32 → Int32 → HH → Prop
  | 0, _, _, _ => False
  | fu + 1, x1, x2, h => ((32 : Int32) ≤ x2 → (True)) ∧ (¬ (32 : Int32) ≤ x2 → (vp_in x1 2 ∧ (((h 41 (ix x1)) = 0 → (P_M_restart_27 fz fu x1 (x2 + 1) h)) ∧ (¬ (h 41 (ix x1)) = 0 → (vp_in (((8 : Int32) * x1) + (x2 / (4 : Int32))) 16 ∧ (((h 36 (ix (((8 : Int32) * x1) + (x2 / (4 : Int32))))) = 0 → (P_M_restart_27 fz fu x1 (x2 + 1) h)) ∧ (¬ (h 36 (ix (((8 : Int32) * x1) + (x2 / (4 : Int32))))) = 0 → (vp_in (((32 : Int32) * x1) + x2) 64 ∧ (P_M_restart_27 fz fu x1 (x2 + 1) (u2 h 35 (ix (((32 : Int32) * x1) + x2)) (1 : Int32)))))))))))
def B_M_restart (fz : Nat) (x1 : Int32) (h : HH) : Int32 × HH := if (B_M_isNode fz x1 h) = 0 then (((0 : Int32), h)) else (if (h 42 (ix x1)) = 0 then (B_M_restart_27 fz fz x1 (0 : Int32) (u2 h 42 (ix x1) (1 : Int32))) else (((0 : Int32), h)))
def P_M_restart (fz : Nat) (x1 : Int32) (h : HH) : Prop := P_M_isNode fz x1 h ∧ (((B_M_isNode fz x1 h) = 0 → (True)) ∧ (¬ (B_M_isNode fz x1 h) = 0 → (vp_in x1 2 ∧ (((h 42 (ix x1)) = 0 → (vp_in x1 2 ∧ (P_M_restart_27 fz fz x1 (0 : Int32) (u2 h 42 (ix x1) (1 : Int32))))) ∧ (¬ (h 42 (ix x1)) = 0 → (True))))))
def B_M_promote_54 (fz : Nat) (x1 : Int32) (h : HH) : Int32 × HH := ((0 : Int32), (u2 h 43 (ix x1) (1 : Int32)))
def P_M_promote_54 (fz : Nat) (x1 : Int32) (h : HH) : Prop := vp_in x1 2 ∧ (True)
def B_M_promote (fz : Nat) (x1 : Int32) (h : HH) : Int32 × HH := if (B_M_isNode fz x1 h) = 0 then (((-1 : Int32), h)) else (if (h 42 (ix x1)) = 0 then (((-2 : Int32), h)) else (if (h 40 (ix x1)) = 0 then (if (h 27 23) = 0 then (B_M_promote_54 fz x1 h) else (if (h 43 (ix ((1 : Int32) - x1))) = 0 then (B_M_promote_54 fz x1 h) else (((-7 : Int32), h)))) else (((-6 : Int32), h))))
def P_M_promote (fz : Nat) (x1 : Int32) (h : HH) : Prop := P_M_isNode fz x1 h ∧ (((B_M_isNode fz x1 h) = 0 → (True)) ∧ (¬ (B_M_isNode fz x1 h) = 0 → (vp_in x1 2 ∧ (((h 42 (ix x1)) = 0 → (True)) ∧ (¬ (h 42 (ix x1)) = 0 → (vp_in x1 2 ∧ (((h 40 (ix x1)) = 0 → (((h 27 23) = 0 → (P_M_promote_54 fz x1 h)) ∧ (¬ (h 27 23) = 0 → (vp_in ((1 : Int32) - x1) 2 ∧ (((h 43 (ix ((1 : Int32) - x1))) = 0 → (P_M_promote_54 fz x1 h)) ∧ (¬ (h 43 (ix ((1 : Int32) - x1))) = 0 → (True))))))) ∧ (¬ (h 40 (ix x1)) = 0 → (True)))))))))
def B_M_demote (fz : Nat) (x1 : Int32) (h : HH) : Int32 × HH := if (B_M_isNode fz x1 h) = 0 then (((-1 : Int32), h)) else (if (h 42 (ix x1)) = 0 then (((-2 : Int32), h)) else (if (h 43 (ix x1)) = 0 then (((-3 : Int32), h)) else (if (B_M_pending fz x1 (0 : Int32) (31 : Int32) h) ≤ 0 then (((0 : Int32), (u2 h 43 (ix x1) (0 : Int32)))) else (((-5 : Int32), h)))))
def P_M_demote (fz : Nat) (x1 : Int32) (h : HH) : Prop := P_M_isNode fz x1 h ∧ (((B_M_isNode fz x1 h) = 0 → (True)) ∧ (¬ (B_M_isNode fz x1 h) = 0 → (vp_in x1 2 ∧ (((h 42 (ix x1)) = 0 → (True)) ∧ (¬ (h 42 (ix x1)) = 0 → (vp_in x1 2 ∧ (((h 43 (ix x1)) = 0 → (True)) ∧ (¬ (h 43 (ix x1)) = 0 → (P_M_pending fz x1 (0 : Int32) (31 : Int32) h ∧ (((B_M_pending fz x1 (0 : Int32) (31 : Int32) h) ≤ 0 → (vp_in x1 2 ∧ (True))) ∧ (¬ (B_M_pending fz x1 (0 : Int32) (31 : Int32) h) ≤ 0 → (True))))))))))))
def B_M_discard_75 (fz : Nat) : Nat → Int32 → Int32 → HH → Int32 × HH
  | 0, _, _, h => (0, h)
  | fu + 1, x1, x2, h => if (32 : Int32) ≤ x2 then (((1 : Int32), (B_M_turnInto fz x1 (3 : Int32) (4 : Int32) h))) else (B_M_discard_75 fz fu x1 (x2 + 1) (u2 h 35 (ix (((32 : Int32) * x1) + x2)) (0 : Int32)))
def P_M_discard_75 (fz : Nat) : Nat → Int32 → Int32 → HH → Prop
  | 0, _, _, _ => False
  | fu + 1, x1, x2, h => ((32 : Int32) ≤ x2 → (P_M_turnInto fz x1 (3 : Int32) (4 : Int32) h ∧ (True))) ∧ (¬ (32 : Int32) ≤ x2 → (vp_in (((32 : Int32) * x1) + x2) 64 ∧ (P_M_discard_75 fz fu x1 (x2 + 1) (u2 h 35 (ix (((32 : Int32) * x1) + x2)) (0 : Int32)))))
def B_M_discard (fz : Nat) (x1 : Int32) (h : HH) : Int32 × HH := if (B_M_isNode fz x1 h) = 0 then (((0 : Int32), h)) else (if (h 42 (ix x1)) = 0 then (((0 : Int32), h)) else (if (h 43 (ix x1)) = 0 then (if (h 27 23) = 0 then (if (h 40 (ix ((1 : Int32) - x1))) = 0 then (B_M_discard_75 fz fz x1 (0 : Int32) (u2 (u2 (u2 (u2 h 40 (ix x1) (1 : Int32)) 41 (ix x1) (0 : Int32)) 38 (ix x1) (0 : Int32)) 39 (ix x1) (0 : Int32))) else (((0 : Int32), h))) else (((0 : Int32), h))) else (((0 : Int32), h))))
def P_M_discard (fz : Nat) (x1 : Int32) (h : HH) : Prop := P_M_isNode fz x1 h ∧ (((B_M_isNode fz x1 h) = 0 → (True)) ∧ (¬ (B_M_isNode fz x1 h) = 0 → (vp_in x1 2 ∧ (((h 42 (ix x1)) = 0 → (True)) ∧ (¬ (h 42 (ix x1)) = 0 → (vp_in x1 2 ∧ (((h 43 (ix x1)) = 0 → (((h 27 23) = 0 → (vp_in ((1 : Int32) - x1) 2 ∧ (((h 40 (ix ((1 : Int32) - x1))) = 0 → (vp_in x1 2 ∧ (vp_in x1 2 ∧ (vp_in x1 2 ∧ (vp_in x1 2 ∧ (P_M_discard_75 fz fz x1 (0 : Int32) (u2 (u2 (u2 (u2 h 40 (ix x1) (1 : Int32)) 41 (ix x1) (0 : Int32)) 38 (ix x1) (0 : Int32)) 39 (ix x1) (0 : Int32)))))))) ∧ (¬ (h 40 (ix ((1 : Int32) - x1))) = 0 → (True))))) ∧ (¬ (h 27 23) = 0 → (True)))) ∧ (¬ (h 43 (ix x1)) = 0 → (True)))))))))
def B_M_disk (fz : Nat) (x1 : Int32) (x2 : Int32) (h : HH) : Int32 := if (B_M_isNode fz x1 h) = 0 then ((0 : Int32)) else (if (B_M_isBlock fz x2 h) = 0 then ((0 : Int32)) else ((h 34 (ix (((32 : Int32) * x1) + x2)))))
def P_M_disk (fz : Nat) (x1 : Int32) (x2 : Int32) (h : HH) : Prop := P_M_isNode fz x1 h ∧ (((B_M_isNode fz x1 h) = 0 → (True)) ∧ (¬ (B_M_isNode fz x1 h) = 0 → (P_M_isBlock fz x2 h ∧ (((B_M_isBlock fz x2 h) = 0 → (True)) ∧ (¬ (B_M_isBlock fz x2 h) = 0 → (vp_in (((32 : Int32) * x1) + x2) 64 ∧ (True)))))))
def B_M_fate (fz : Nat) (x1 : Int32) (h : HH) : Int32 := if x1 < (1 : Int32) then ((0 : Int32)) else (if (h 27 0) < x1 then ((0 : Int32)) else ((h 32 (ix x1))))
def P_M_fate (fz : Nat) (x1 : Int32) (h : HH) : Prop := (x1 < (1 : Int32) → (True)) ∧ (¬ x1 < (1 : Int32) → (((h 27 0) < x1 → (True)) ∧ (¬ (h 27 0) < x1 → (vp_in x1 301 ∧ (True)))))
def B_M_state_116 (fz : Nat) (y0 : Int32) (y1 : Int32) (h : HH) : Int32 := (y0 + y1)
def P_M_state_116 (fz : Nat) (y0 : Int32) (y1 : Int32) (h : HH) : Prop := True
def B_M_state_100 (fz : Nat) (x1 : Int32) (y0 : Int32) (y1 : Int32) (h : HH) : Int32 := if (h 45 (ix x1)) = 0 then (B_M_state_116 fz (y0 + y1) (0 : Int32) h) else (B_M_state_116 fz (y0 + y1) (64 : Int32) h)
def P_M_state_100 (fz : Nat) (x1 : Int32) (y0 : Int32) (y1 : Int32) (h : HH) : Prop := vp_in x1 2 ∧ (((h 45 (ix x1)) = 0 → (P_M_state_116 fz (y0 + y1) (0 : Int32) h)) ∧ (¬ (h 45 (ix x1)) = 0 → (P_M_state_116 fz (y0 + y1) (64 : Int32) h)))
def B_M_state_84 (fz : Nat) (x1 : Int32) (y0 : Int32) (y1 : Int32) (h : HH) : Int32 := if (h 44 (ix x1)) = 0 then (B_M_state_100 fz x1 (y0 + y1) (0 : Int32) h) else (B_M_state_100 fz x1 (y0 + y1) (32 : Int32) h)
def P_M_state_84 (fz : Nat) (x1 : Int32) (y0 : Int32) (y1 : Int32) (h : HH) : Prop := vp_in x1 2 ∧ (((h 44 (ix x1)) = 0 → (P_M_state_100 fz x1 (y0 + y1) (0 : Int32) h)) ∧ (¬ (h 44 (ix x1)) = 0 → (P_M_state_100 fz x1 (y0 + y1) (32 : Int32) h)))
def B_M_state_68 (fz : Nat) (x1 : Int32) (y0 : Int32) (y1 : Int32) (h : HH) : Int32 := if (h 27 23) = 0 then (B_M_state_84 fz x1 (y0 + y1) (0 : Int32) h) else (B_M_state_84 fz x1 (y0 + y1) (16 : Int32) h)
def P_M_state_68 (fz : Nat) (x1 : Int32) (y0 : Int32) (y1 : Int32) (h : HH) : Prop := ((h 27 23) = 0 → (P_M_state_84 fz x1 (y0 + y1) (0 : Int32) h)) ∧ (¬ (h 27 23) = 0 → (P_M_state_84 fz x1 (y0 + y1) (16 : Int32) h))
def B_M_state_52 (fz : Nat) (x1 : Int32) (y0 : Int32) (y1 : Int32) (h : HH) : Int32 := if (h 41 (ix x1)) = 0 then (B_M_state_68 fz x1 (y0 + y1) (0 : Int32) h) else (B_M_state_68 fz x1 (y0 + y1) (8 : Int32) h)
def P_M_state_52 (fz : Nat) (x1 : Int32) (y0 : Int32) (y1 : Int32) (h : HH) : Prop := vp_in x1 2 ∧ (((h 41 (ix x1)) = 0 → (P_M_state_68 fz x1 (y0 + y1) (0 : Int32) h)) ∧ (¬ (h 41 (ix x1)) = 0 → (P_M_state_68 fz x1 (y0 + y1) (8 : Int32) h)))
def B_M_state_37 (fz : Nat) (x1 : Int32) (y0 : Int32) (y1 : Int32) (h : HH) : Int32 := if (h 40 (ix x1)) = 0 then (B_M_state_52 fz x1 (y0 + y1) (0 : Int32) h) else (B_M_state_52 fz x1 (y0 + y1) (4 : Int32) h)
def P_M_state_37 (fz : Nat) (x1 : Int32) (y0 : Int32) (y1 : Int32) (h : HH) : Prop := vp_in x1 2 ∧ (((h 40 (ix x1)) = 0 → (P_M_state_52 fz x1 (y0 + y1) (0 : Int32) h)) ∧ (¬ (h 40 (ix x1)) = 0 → (P_M_state_52 fz x1 (y0 + y1) (4 : Int32) h)))
def B_M_state_23 (fz : Nat) (x1 : Int32) (y0 : Int32) (h : HH) : Int32 := if (h 43 (ix x1)) = 0 then (B_M_state_37 fz x1 y0 (0 : Int32) h) else (B_M_state_37 fz x1 y0 (2 : Int32) h)
def P_M_state_23 (fz : Nat) (x1 : Int32) (y0 : Int32) (h : HH) : Prop := vp_in x1 2 ∧ (((h 43 (ix x1)) = 0 → (P_M_state_37 fz x1 y0 (0 : Int32) h)) ∧ (¬ (h 43 (ix x1)) = 0 → (P_M_state_37 fz x1 y0 (2 : Int32) h)))
def B_M_state (fz : Nat) (x1 : Int32) (h : HH) : Int32 := if (B_M_isNode fz x1 h) = 0 then ((-1 : Int32)) else (if (h 42 (ix x1)) = 0 then (B_M_state_23 fz x1 (0 : Int32) h) else (B_M_state_23 fz x1 (1 : Int32) h))
def P_M_state (fz : Nat) (x1 : Int32) (h : HH) : Prop := P_M_isNode fz x1 h ∧ (((B_M_isNode fz x1 h) = 0 → (True)) ∧ (¬ (B_M_isNode fz x1 h) = 0 → (vp_in x1 2 ∧ (((h 42 (ix x1)) = 0 → (P_M_state_23 fz x1 (0 : Int32) h)) ∧ (¬ (h 42 (ix x1)) = 0 → (P_M_state_23 fz x1 (1 : Int32) h))))))
def B_M_generation (fz : Nat) (x1 : Int32) (h : HH) : Int64 := if (B_M_isNode fz x1 h) = 0 then ((0 : Int64)) else ((((4294967296 : Int64) * (((h 38 (ix x1))).toInt64)) + (((h 39 (ix x1))).toInt64)))
def P_M_generation (fz : Nat) (x1 : Int32) (h : HH) : Prop := P_M_isNode fz x1 h ∧ (((B_M_isNode fz x1 h) = 0 → (True)) ∧ (¬ (B_M_isNode fz x1 h) = 0 → (vp_in x1 2 ∧ (vp_in x1 2 ∧ (True)))))
def B_M_map_13 (fz : Nat) : Nat → Int32 → Int32 → Int32 → HH → Int32
  | 0, _, _, _, _ => 0
  | fu + 1, x1, x2, x3, h => if (32 : Int32) ≤ x3 then (x2) else (if (h 35 (ix (((32 : Int32) * x1) + x3))) = 0 then (B_M_map_13 fz fu x1 x2 (x3 + 1) h) else (B_M_map_13 fz fu x1 (x2 ||| ((1 : Int32) <<< (x3 &&& 31))) (x3 + 1) h))
def P_M_map_13 (fz : Nat) : Nat → Int32 → Int32 → Int32 → HH → Prop
  | 0, _, _, _, _ => False
  | fu + 1, x1, x2, x3, h => ((32 : Int32) ≤ x3 → (True)) ∧ (¬ (32 : Int32) ≤ x3 → (vp_in (((32 : Int32) * x1) + x3) 64 ∧ (((h 35 (ix (((32 : Int32) * x1) + x3))) = 0 → (P_M_map_13 fz fu x1 x2 (x3 + 1) h)) ∧ (¬ (h 35 (ix (((32 : Int32) * x1) + x3))) = 0 → (P_M_map_13 fz fu x1 (x2 ||| ((1 : Int32) <<< (x3 &&& 31))) (x3 + 1) h)))))
def B_M_map (fz : Nat) (x1 : Int32) (h : HH) : Int32 := if (B_M_isNode fz x1 h) = 0 then ((0 : Int32)) else (B_M_map_13 fz fz x1 (0 : Int32) (0 : Int32) h)
def P_M_map (fz : Nat) (x1 : Int32) (h : HH) : Prop := P_M_isNode fz x1 h ∧ (((B_M_isNode fz x1 h) = 0 → (True)) ∧ (¬ (B_M_isNode fz x1 h) = 0 → (P_M_map_13 fz fz x1 (0 : Int32) (0 : Int32) h)))
def B_M_log_23 (fz : Nat) : Nat → Int32 → Int32 → Int32 → Int32 → Int32 → HH → Int32 × Int32
  | 0, _, _, _, _, _, _ => (0, 0)
  | fu + 1, x1, x2, x3, x4, x5, h => if (8 : Int32) ≤ x5 then ((x4, x5)) else (if (h 36 (ix (((8 : Int32) * x1) + x5))) = 0 then (B_M_log_23 fz fu x1 x2 x3 x4 (x5 + 1) h) else (if (h 37 (ix (((8 : Int32) * x1) + x5))) ≤ (h 37 (ix (((8 : Int32) * x1) + x3))) then (B_M_log_23 fz fu x1 x2 x3 x4 (x5 + 1) h) else (B_M_log_23 fz fu x1 x2 x3 (x4 + 1) (x5 + 1) h)))
def P_M_log_23 (fz : Nat) : Nat → Int32 → Int32 → Int32 → Int32 → Int32 → HH → Prop
  | 0, _, _, _, _, _, _ => False
  | fu + 1, x1, x2, x3, x4, x5, h => ((8 : Int32) ≤ x5 → (True)) ∧ (¬ (8 : Int32) ≤ x5 → (vp_in (((8 : Int32) * x1) + x5) 16 ∧ (((h 36 (ix (((8 : Int32) * x1) + x5))) = 0 → (P_M_log_23 fz fu x1 x2 x3 x4 (x5 + 1) h)) ∧ (¬ (h 36 (ix (((8 : Int32) * x1) + x5))) = 0 → (vp_in (((8 : Int32) * x1) + x5) 16 ∧ (vp_in (((8 : Int32) * x1) + x3) 16 ∧ (((h 37 (ix (((8 : Int32) * x1) + x5))) ≤ (h 37 (ix (((8 : Int32) * x1) + x3))) → (P_M_log_23 fz fu x1 x2 x3 x4 (x5 + 1) h)) ∧ (¬ (h 37 (ix (((8 : Int32) * x1) + x5))) ≤ (h 37 (ix (((8 : Int32) * x1) + x3))) → (P_M_log_23 fz fu x1 x2 x3 (x4 + 1) (x5 + 1) h)))))))))
def B_M_log_11 (fz : Nat) : Nat → Int32 → Int32 → Int32 → HH → Int32
  | 0, _, _, _, _ => 0
  | fu + 1, x1, x2, x3, h => if (8 : Int32) ≤ x3 then ((-1 : Int32)) else (if (h 36 (ix (((8 : Int32) * x1) + x3))) = 0 then (B_M_log_11 fz fu x1 x2 (x3 + 1) h) else (if (B_M_log_23 fz fz x1 x2 x3 (0 : Int32) (0 : Int32) h).1 = x2 then (x3) else (B_M_log_11 fz fu x1 x2 (x3 + 1) h)))
def P_M_log_11 (fz : Nat) : Nat → Int32 → Int32 → Int32 → HH → Prop
  | 0, _, _, _, _ => False
  | fu + 1, x1, x2, x3, h => ((8 : Int32) ≤ x3 → (True)) ∧ (¬ (8 : Int32) ≤ x3 → (P_M_log_23 fz fz x1 x2 x3 (0 : Int32) (0 : Int32) h ∧ (vp_in (((8 : Int32) * x1) + x3) 16 ∧ (((h 36 (ix (((8 : Int32) * x1) + x3))) = 0 → (P_M_log_11 fz fu x1 x2 (x3 + 1) h)) ∧ (¬ (h 36 (ix (((8 : Int32) * x1) + x3))) = 0 → (((B_M_log_23 fz fz x1 x2 x3 (0 : Int32) (0 : Int32) h).1 = x2 → (True)) ∧ (¬ (B_M_log_23 fz fz x1 x2 x3 (0 : Int32) (0 : Int32) h).1 = x2 → (P_M_log_11 fz fu x1 x2 (x3 + 1) h))))))))
def B_M_log (fz : Nat) (x1 : Int32) (x2 : Int32) (h : HH) : Int32 := if (B_M_isNode fz x1 h) = 0 then ((-1 : Int32)) else (B_M_log_11 fz fz x1 x2 (0 : Int32) h)
def P_M_log (fz : Nat) (x1 : Int32) (x2 : Int32) (h : HH) : Prop := P_M_isNode fz x1 h ∧ (((B_M_isNode fz x1 h) = 0 → (True)) ∧ (¬ (B_M_isNode fz x1 h) = 0 → (P_M_log_11 fz fz x1 x2 (0 : Int32) h)))
def B_M_traffic_13 (fz : Nat) : Nat → Int32 → Int32 → Int32 → HH → Int32
  | 0, _, _, _, _ => 0
  | fu + 1, x1, x2, x3, h => if (h 27 0) < x3 then ((((h 51 (ix x1)) + ((100 : Int32) * x2)) + ((10000 : Int32) * (B_M_underWay fz x1 (-1 : Int32) h)))) else (if (h 33 (ix x3)) = 0 then (B_M_traffic_13 fz fu x1 x2 (x3 + 1) h) else (if (h 28 (ix x3)) = ((1 : Int32) - x1) then (B_M_traffic_13 fz fu x1 (x2 + (1 : Int32)) (x3 + 1) h) else (B_M_traffic_13 fz fu x1 x2 (x3 + 1) h)))
def P_M_traffic_13 (fz : Nat) : Nat → Int32 → Int32 → Int32 → HH → Prop
  | 0, _, _, _, _ => False
  | fu + 1, x1, x2, x3, h => ((h 27 0) < x3 → (vp_in x1 2 ∧ (P_M_underWay fz x1 (-1 : Int32) h ∧ (True)))) ∧ (¬ (h 27 0) < x3 → (vp_in x3 301 ∧ (((h 33 (ix x3)) = 0 → (P_M_traffic_13 fz fu x1 x2 (x3 + 1) h)) ∧ (¬ (h 33 (ix x3)) = 0 → (vp_in x3 301 ∧ (((h 28 (ix x3)) = ((1 : Int32) - x1) → (P_M_traffic_13 fz fu x1 (x2 + (1 : Int32)) (x3 + 1) h)) ∧ (¬ (h 28 (ix x3)) = ((1 : Int32) - x1) → (P_M_traffic_13 fz fu x1 x2 (x3 + 1) h))))))))
def B_M_traffic (fz : Nat) (x1 : Int32) (h : HH) : Int32 := if (B_M_isNode fz x1 h) = 0 then ((0 : Int32)) else (B_M_traffic_13 fz fz x1 (0 : Int32) (1 : Int32) h)
def P_M_traffic (fz : Nat) (x1 : Int32) (h : HH) : Prop := P_M_isNode fz x1 h ∧ (((B_M_isNode fz x1 h) = 0 → (True)) ∧ (¬ (B_M_isNode fz x1 h) = 0 → (P_M_traffic_13 fz fz x1 (0 : Int32) (1 : Int32) h)))
end
section
def bt (x : Int32) (i : Nat) : Bool := x.toBitVec.getLsbD i
theorem b_ext {x y : Int32} (h : ∀ i, i < 32 → bt x i = bt y i) : x = y := Int32.toBitVec_inj.mp (BitVec.eq_of_getLsbD_eq (fun i hi => h i hi))
theorem b_or (x y : Int32) (i : Nat) : bt (x ||| y) i = (bt x i || bt y i) := by unfold bt; rw [Int32.toBitVec_or, BitVec.getLsbD_or]
theorem b_and (x y : Int32) (i : Nat) : bt (x &&& y) i = (bt x i && bt y i) := by unfold bt; rw [Int32.toBitVec_and, BitVec.getLsbD_and]
theorem b_xor (x y : Int32) (i : Nat) : bt (x ^^^ y) i = (bt x i ^^ bt y i) := by unfold bt; rw [Int32.toBitVec_xor, BitVec.getLsbD_xor]
theorem b_big {x : Int32} {i : Nat} (h : 32 ≤ i) : bt x i = false := BitVec.getLsbD_of_ge _ _ h
theorem b_255 (i : Nat) : bt 255 i = decide (i < 8) := by
  rcases Nat.lt_or_ge i 32 with h | h
  · exact (by decide +kernel : ∀ i, i < 32 → bt 255 i = decide (i < 8)) i h
  · rw [b_big h, decide_eq_false (by omega)]
theorem b_65535 (i : Nat) : bt 65535 i = decide (i < 16) := by
  rcases Nat.lt_or_ge i 32 with h | h
  · exact (by decide +kernel : ∀ i, i < 32 → bt 65535 i = decide (i < 16)) i h
  · rw [b_big h, decide_eq_false (by omega)]
theorem b_m1 : ∀ i, i < 32 → bt (-1) i = true := by decide +kernel
theorem b_0 (i : Nat) : bt 0 i = false := BitVec.getLsbD_zero
theorem s_l : ∀ n, n < 32 → ((nI n &&& 31).toBitVec.smod 32).toNat = n := by decide +kernel
theorem s_u : ∀ n, n < 32 → (((nI n).toUInt32 &&& Int32.toUInt32 31).toBitVec % 32).toNat = n := by decide +kernel
theorem b_shl (n : Nat) (hn : n < 32) (x : Int32) {i : Nat} (hi : i < 32) : bt (x <<< (nI n &&& 31)) i = (decide (n ≤ i) && bt x (i - n)) := by
  unfold bt
  rw [Int32.toBitVec_shiftLeft]
  show (x.toBitVec <<< ((nI n &&& 31).toBitVec.smod 32).toNat).getLsbD i = _
  rw [s_l n hn, BitVec.getLsbD_shiftLeft]
  rcases Nat.lt_or_ge i n with h | h
  · simp [h, Nat.not_le.mpr h]
  · simp [hi, h, Nat.not_lt.mpr h]
theorem b_ushr (n : Nat) (hn : n < 32) (x : Int32) (i : Nat) : bt ((x.toUInt32 >>> ((nI n).toUInt32 &&& Int32.toUInt32 31)).toInt32) i = bt x (n + i) := by
  show (x.toUInt32 >>> ((nI n).toUInt32 &&& Int32.toUInt32 31)).toBitVec.getLsbD i = x.toUInt32.toBitVec.getLsbD (n + i)
  rw [UInt32.toBitVec_shiftRight]
  show (x.toUInt32.toBitVec >>> (((nI n).toUInt32 &&& Int32.toUInt32 31).toBitVec % 32).toNat).getLsbD i = _
  rw [s_u n hn, BitVec.getLsbD_ushiftRight]
theorem li0 : (0 : Int32) = nI 0 := by decide +kernel
theorem li1 : (1 : Int32) = nI 1 := by decide +kernel
theorem li2 : (2 : Int32) = nI 2 := by decide +kernel
theorem li3 : (3 : Int32) = nI 3 := by decide +kernel
theorem li4 : (4 : Int32) = nI 4 := by decide +kernel
theorem li5 : (5 : Int32) = nI 5 := by decide +kernel
theorem li8 : (8 : Int32) = nI 8 := by decide +kernel
theorem li25 : (25 : Int32) = nI 25 := by decide +kernel
theorem li31 : (31 : Int32) = nI 31 := by decide +kernel
theorem li32 : (32 : Int32) = nI 32 := by decide +kernel
theorem li64 : (64 : Int32) = nI 64 := by decide +kernel
theorem li100 : (100 : Int32) = nI 100 := by decide +kernel
theorem li300 : (300 : Int32) = nI 300 := by decide +kernel
theorem li10000 : (10000 : Int32) = nI 10000 := by decide +kernel
theorem bt_1 : ∀ i, i < 32 → bt 1 i = decide (i = 0) := by decide +kernel
theorem bt_one : ∀ a, a < 32 → ∀ j, j < 32 → bt ((1 : Int32) <<< (nI a &&& 31)) j = decide (j = a) := by decide +kernel
theorem bt_ext15 : ∀ e, e < 8 → ∀ j, j < 32 → bt ((15 : Int32) <<< ((nI e * (4 : Int32)) &&& 31)) j = decide (j / 4 = e) := by decide +kernel
theorem bt_clr (x : Int32) {a j : Nat} (ha : a < 32) (hj : j < 32) : bt (x &&& (((1 : Int32) <<< (nI a &&& 31)) ^^^ (-1 : Int32))) j = (bt x j && !decide (j = a)) := by
  rw [b_and, b_xor, bt_one a ha j hj, b_m1 j hj]
  cases bt x j <;> cases decide (j = a) <;> rfl
theorem bt_set (x : Int32) {a j : Nat} (ha : a < 32) (hj : j < 32) : bt (x ||| ((1 : Int32) <<< (nI a &&& 31))) j = (bt x j || decide (j = a)) := by
  rw [b_or, bt_one a ha j hj]
theorem bt_zero (x : Int32) : x = 0 ↔ ∀ j, j < 32 → bt x j = false := by
  constructor
  · rintro rfl j _
    exact b_0 j
  · intro h
    exact b_ext (fun i hi => by rw [h i hi, b_0])
theorem has_bit (x : Int32) {j : Nat} (hj : j < 32) : ((x.toUInt32 >>> ((nI j).toUInt32 &&& Int32.toUInt32 31)).toInt32 &&& (1 : Int32)) = 0 ↔ bt x j = false := by
  constructor
  · intro h0
    have h1 := congrArg (fun z => bt z 0) h0
    simp only [b_and, b_ushr j hj, b_0, Nat.add_zero] at h1
    rw [bt_1 0 (by decide)] at h1
    simpa using h1
  · intro h0
    apply b_ext
    intro i hi
    rw [b_and, b_ushr j hj, b_0, bt_1 i hi]
    cases i with
    | zero => simp [h0]
    | succ i => simp
def bi (b : Bool) : Int32 := if b then 1 else 0
theorem bi_0 (b : Bool) : bi b = 0 ↔ b = false := by cases b <;> decide
theorem bi_t : bi true = 1 := rfl
theorem bi_f : bi false = 0 := rfl
theorem bi_nar (b : Bool) : narrow .boolean (.int (bi b)) = .int (bi b) := by cases b <;> decide
def cn (p : Nat → Bool) : Nat → Nat → Nat
  | _, 0 => 0
  | a, k + 1 => cond (p a) 1 0 + cn p (a + 1) k
theorem cn_le (p : Nat → Bool) : ∀ k a, cn p a k ≤ k
  | 0, a => Nat.le_refl _
  | k + 1, a => by
    have := cn_le p k (a + 1)
    rw [cn]
    cases p a <;> simp only [cond_true, cond_false] <;> omega
theorem cn_congr {p q : Nat → Bool} : ∀ k a, (∀ i, a ≤ i → i < a + k → p i = q i) → cn p a k = cn q a k
  | 0, a, _ => rfl
  | k + 1, a, h => by
    rw [cn, cn, h a (Nat.le_refl _) (by omega), cn_congr k (a + 1) (fun i h1 h2 => h i (by omega) (by omega))]
theorem cn_mono {p q : Nat → Bool} : ∀ k a, (∀ i, a ≤ i → i < a + k → p i = true → q i = true) → cn p a k ≤ cn q a k
  | 0, a, _ => Nat.le_refl _
  | k + 1, a, h => by
    have h1 := cn_mono (p := p) (q := q) k (a + 1) (fun i h1 h2 => h i (by omega) (by omega))
    have h2 := h a (Nat.le_refl _) (by omega)
    rw [cn, cn]
    cases hp : p a with
    | false => simp only [cond_false]; omega
    | true => rw [h2 hp]; simp only [cond_true]; omega
theorem cn_filter (p : Nat → Bool) : ∀ k a, cn p a k = ((List.range' a k).filter p).length
  | 0, a => rfl
  | k + 1, a => by
    rw [cn, cn_filter p k (a + 1), List.range'_succ, List.filter_cons]
    cases p a
    · simp
    · simp [Nat.add_comm]
theorem cn_len {p : Nat → Bool} {a k : Nat} {l : List Nat} (nd : l.Nodup) (h : ∀ x, x ∈ l ↔ (a ≤ x ∧ x < a + k) ∧ p x = true) : cn p a k = l.length := by
  rw [cn_filter]
  have nd2 : ((List.range' a k).filter p).Nodup := List.Pairwise.filter p List.nodup_range'
  refine ((List.perm_ext_iff_of_nodup nd2 nd).mpr (fun x => ?_)).length_eq
  rw [List.mem_filter, List.mem_range'_1, h]
theorem cn_pos {p : Nat → Bool} : ∀ k a, 0 < cn p a k ↔ ∃ i, a ≤ i ∧ i < a + k ∧ p i = true
  | 0, a => ⟨fun h => absurd h (Nat.lt_irrefl _), fun ⟨i, h1, h2, _⟩ => by omega⟩
  | k + 1, a => by
    have ih := cn_pos (p := p) k (a + 1)
    constructor
    · intro h
      cases hp : p a with
      | true => exact ⟨a, Nat.le_refl _, by omega, hp⟩
      | false =>
        rw [cn, hp, cond_false, Nat.zero_add] at h
        obtain ⟨i, h1, h2, h3⟩ := ih.mp h
        exact ⟨i, by omega, by omega, h3⟩
    · rintro ⟨i, h1, h2, h3⟩
      rw [cn]
      by_cases e : i = a
      · subst e
        rw [h3, cond_true]
        omega
      · have := ih.mpr ⟨i, by omega, by omega, h3⟩
        omega
theorem cn_snoc (p : Nat → Bool) : ∀ k a, cn p a (k + 1) = cn p a k + cond (p (a + k)) 1 0
  | 0, a => by simp [cn]
  | k + 1, a => by
    rw [cn, cn_snoc p k (a + 1), cn, show a + 1 + k = a + (k + 1) by omega]
    omega
def fnd (p : Nat → Bool) : Nat → Nat → Option Nat
  | _, 0 => none
  | a, k + 1 => cond (p a) (some a) (fnd p (a + 1) k)
def oi : Option Nat → Int32
  | some i => nI i
  | none => -1
theorem fnd_congr {p q : Nat → Bool} : ∀ k a, (∀ i, a ≤ i → i < a + k → p i = q i) → fnd p a k = fnd q a k
  | 0, a, _ => rfl
  | k + 1, a, h => by
    rw [fnd, fnd, h a (Nat.le_refl _) (by omega), fnd_congr k (a + 1) (fun i h1 h2 => h i (by omega) (by omega))]
theorem fnd_some {p : Nat → Bool} : ∀ k a i, fnd p a k = some i → a ≤ i ∧ i < a + k ∧ p i = true ∧ ∀ i', a ≤ i' → i' < i → p i' = false
  | 0, a, i, h => by cases h
  | k + 1, a, i, h => by
    rw [fnd] at h
    cases hp : p a with
    | true =>
      rw [hp] at h
      have e : a = i := Option.some.inj h
      subst e
      exact ⟨Nat.le_refl _, by omega, hp, fun i' h1 h2 => by omega⟩
    | false =>
      rw [hp] at h
      obtain ⟨h1, h2, h3, h4⟩ := fnd_some k (a + 1) i h
      refine ⟨by omega, by omega, h3, fun i' g1 g2 => ?_⟩
      by_cases e : i' = a
      · rw [e]; exact hp
      · exact h4 i' (by omega) g2
theorem fnd_none {p : Nat → Bool} : ∀ k a, fnd p a k = none → ∀ i, a ≤ i → i < a + k → p i = false
  | 0, a, _, i, h1, h2 => by omega
  | k + 1, a, h, i, h1, h2 => by
    rw [fnd] at h
    cases hp : p a with
    | true => rw [hp] at h; cases h
    | false =>
      rw [hp] at h
      by_cases e : i = a
      · rw [e]; exact hp
      · exact fnd_none k (a + 1) h i (by omega) (by omega)
def fndD (p : Nat → Bool) : Nat → Option Nat
  | 0 => none
  | k + 1 => cond (p k) (some k) (fndD p k)
theorem fndD_some {p : Nat → Bool} : ∀ k i, fndD p k = some i → i < k ∧ p i = true ∧ ∀ i', i < i' → i' < k → p i' = false
  | 0, i, h => by cases h
  | k + 1, i, h => by
    rw [fndD] at h
    cases hp : p k with
    | true =>
      rw [hp] at h
      have e : k = i := Option.some.inj h
      subst e
      exact ⟨by omega, hp, fun i' h1 h2 => by omega⟩
    | false =>
      rw [hp] at h
      obtain ⟨h1, h2, h3⟩ := fndD_some k i h
      refine ⟨by omega, h2, fun i' g1 g2 => ?_⟩
      by_cases e : i' = k
      · rw [e]; exact hp
      · exact h3 i' g1 (by omega)
theorem fndD_none {p : Nat → Bool} : ∀ k, fndD p k = none → ∀ i, i < k → p i = false
  | 0, _, i, h => by omega
  | k + 1, h, i, hi => by
    rw [fndD] at h
    cases hp : p k with
    | true => rw [hp] at h; cases h
    | false =>
      rw [hp] at h
      by_cases e : i = k
      · rw [e]; exact hp
      · exact fndD_none k h i (by omega)
theorem oi_m1 (o : Option Nat) (ho : ∀ i, o = some i → i < 2 ^ 31) : oi o = -1 ↔ o = none := by
  cases o with
  | none => exact ⟨fun _ => rfl, fun _ => rfl⟩
  | some i =>
    refine ⟨fun h => ?_, fun h => by cases h⟩
    have h1 : ¬ nI i < 0 := nI_pos (ho i rfl)
    have h2 : nI i = -1 := h
    rw [h2] at h1
    exact absurd (by decide) h1
def ug {α : Type} (f : Nat → α) (b : Nat) (x : α) : Nat → α := fun c => if c = b then x else f c
theorem B_hasBlock (fz : Nat) (x : Int32) (h : HH) {j : Nat} (hj : j < 32) : B_V_hasBlock fz x (nI j) h = bi (bt x j) := by
  unfold B_V_hasBlock
  cases hb : bt x j with
  | false => rw [if_pos ((has_bit x hj).mpr hb)]; rfl
  | true => rw [if_neg (fun q => by rw [(has_bit x hj).mp q] at hb; cases hb)]; rfl
end
section
theorem cf_countPending (fz : Nat) (x : Int32) (h : HH) {n : Nat} (hn : n ≤ 300) (h5 : h 21 5 = nI n) : ∀ (k fu w acc : Nat), w + k = n + 1 → k < fu → P_T_countPending_4 fz fu x (nI acc) (nI w) h ∧ B_T_countPending_4 fz fu x (nI acc) (nI w) h = nI (acc + cn (fun i => decide (h 22 i = x ∧ h 26 i = 1)) w k) := by
  intro k
  induction k with
  | zero =>
    intro fu w acc hk hf
    obtain ⟨fu, rfl⟩ : ∃ q, fu = q + 1 := ⟨fu - 1, by omega⟩
    have g : h 21 5 < nI w := by rw [h5]; exact nI_lt (by omega) (by omega)
    simp [P_T_countPending_4, B_T_countPending_4, g, cn]
  | succ k ih =>
    intro fu w acc hk hf
    obtain ⟨fu, rfl⟩ : ∃ q, fu = q + 1 := ⟨fu - 1, by omega⟩
    have g : ¬ h 21 5 < nI w := by rw [h5]; exact nI_nlt (by omega) (by omega)
    have hx : ix (nI w) = w := nI_clamp (by omega)
    have hv : vp_in (nI w) 301 := vp_in_nI (by omega) (by decide)
    have i0 := ih fu (w + 1) acc (by omega) (by omega)
    have i1 := ih fu (w + 1) (acc + 1) (by omega) (by omega)
    by_cases c1 : h 22 w = x
    · by_cases c2 : h 26 w = 1
      · simp [P_T_countPending_4, B_T_countPending_4, P_T_isPendingOf, B_T_isPendingOf, hx, hv, g, c1, c2, nI_1, i1, cn, Nat.add_assoc]
      · simp [P_T_countPending_4, B_T_countPending_4, P_T_isPendingOf, B_T_isPendingOf, hx, hv, g, c1, c2, nI_1, i0, cn]
    · simp [P_T_countPending_4, B_T_countPending_4, P_T_isPendingOf, B_T_isPendingOf, hx, hv, g, c1, nI_1, i0, cn]
theorem cv_countPending (fz : Nat) (hz : 400 ≤ fz) (x : Int32) (h : HH) {n : Nat} (hn : n ≤ 300) (h5 : h 21 5 = nI n) : P_T_countPending fz x h ∧ B_T_countPending fz x h = nI (cn (fun i => decide (h 22 i = x ∧ h 26 i = 1)) 1 n) := by
  have q := cf_countPending fz x h hn h5 n fz 1 0 (by omega) (by omega)
  rw [← li0, ← li1, Nat.zero_add] at q
  exact q
theorem cf_pendingBlocks (fz : Nat) (x : Int32) (h : HH) {n : Nat} (hn : n ≤ 300) (h5 : h 21 5 = nI n) (hb : ∀ w, 1 ≤ w → w ≤ n → ∃ a, a < 32 ∧ h 23 w = nI a) : ∀ (k fu w : Nat) (acc : Int32), 1 ≤ w → w + k = n + 1 → k < fu → P_T_pendingBlocks_4 fz fu x acc (nI w) h ∧ ∀ j, j < 32 → (bt (B_T_pendingBlocks_4 fz fu x acc (nI w) h) j = true ↔ bt acc j = true ∨ ∃ i, w ≤ i ∧ i ≤ n ∧ h 22 i = x ∧ h 26 i = 1 ∧ h 23 i = nI j) := by
  intro k
  induction k with
  | zero =>
    intro fu w acc h1 hk hf
    obtain ⟨fu, rfl⟩ : ∃ q, fu = q + 1 := ⟨fu - 1, by omega⟩
    have g : h 21 5 < nI w := by rw [h5]; exact nI_lt (by omega) (by omega)
    refine ⟨by simp [P_T_pendingBlocks_4, g], fun j hj => ?_⟩
    simp only [B_T_pendingBlocks_4, g, if_true]
    exact ⟨Or.inl, fun q => q.elim id (fun ⟨i, a, b, _⟩ => by omega)⟩
  | succ k ih =>
    intro fu w acc h1 hk hf
    obtain ⟨fu, rfl⟩ : ∃ q, fu = q + 1 := ⟨fu - 1, by omega⟩
    have g : ¬ h 21 5 < nI w := by rw [h5]; exact nI_nlt (by omega) (by omega)
    have hx : ix (nI w) = w := nI_clamp (by omega)
    have hv : vp_in (nI w) 301 := vp_in_nI (by omega) (by decide)
    obtain ⟨a, ha, hb1⟩ := hb w h1 (by omega)
    have i0 := ih fu (w + 1) acc (by omega) (by omega) (by omega)
    have i1 := ih fu (w + 1) (acc ||| ((1 : Int32) <<< (nI a &&& 31))) (by omega) (by omega) (by omega)
    by_cases c : h 22 w = x ∧ h 26 w = 1
    · obtain ⟨c1, c2⟩ := c
      refine ⟨by simp [P_T_pendingBlocks_4, P_T_isPendingOf, B_T_isPendingOf, hx, hv, g, c1, c2, nI_1, i1.1, hb1], fun j hj => ?_⟩
      have e : B_T_pendingBlocks_4 fz (fu + 1) x acc (nI w) h = B_T_pendingBlocks_4 fz fu x (acc ||| ((1 : Int32) <<< (nI a &&& 31))) (nI (w + 1)) h := by simp [B_T_pendingBlocks_4, B_T_isPendingOf, hx, g, c1, c2, nI_1, hb1]
      rw [e, i1.2 j hj, bt_set acc ha hj]
      constructor
      · rintro (q | ⟨i, q1, q2, q3⟩)
        · rcases Bool.or_eq_true_iff.mp q with q | q
          · exact Or.inl q
          · have : j = a := by simpa using q
            exact Or.inr ⟨w, Nat.le_refl _, by omega, c1, c2, by rw [hb1, this]⟩
        · exact Or.inr ⟨i, by omega, q2, q3⟩
      · rintro (q | ⟨i, q1, q2, q3, q4, q5⟩)
        · exact Or.inl (by rw [q]; rfl)
        · by_cases ei : i = w
          · rw [ei, hb1] at q5
            have : a = j := (nI_eq (by omega) (by omega)).mp q5
            exact Or.inl (by simp [this])
          · exact Or.inr ⟨i, by omega, q2, q3, q4, q5⟩
    · have e : B_T_pendingBlocks_4 fz (fu + 1) x acc (nI w) h = B_T_pendingBlocks_4 fz fu x acc (nI (w + 1)) h := by
        by_cases c1 : h 22 w = x
        · have c2 : ¬ h 26 w = 1 := fun q => c ⟨c1, q⟩
          simp [B_T_pendingBlocks_4, B_T_isPendingOf, hx, g, c1, c2, nI_1]
        · simp [B_T_pendingBlocks_4, B_T_isPendingOf, hx, g, c1, nI_1]
      have ep : P_T_pendingBlocks_4 fz (fu + 1) x acc (nI w) h := by
        by_cases c1 : h 22 w = x
        · have c2 : ¬ h 26 w = 1 := fun q => c ⟨c1, q⟩
          simp [P_T_pendingBlocks_4, P_T_isPendingOf, B_T_isPendingOf, hx, hv, g, c1, c2, nI_1, i0.1]
        · simp [P_T_pendingBlocks_4, P_T_isPendingOf, B_T_isPendingOf, hx, hv, g, c1, nI_1, i0.1]
      refine ⟨ep, fun j hj => ?_⟩
      rw [e, i0.2 j hj]
      constructor
      · rintro (q | ⟨i, q1, q2⟩)
        · exact Or.inl q
        · exact Or.inr ⟨i, by omega, q2⟩
      · rintro (q | ⟨i, q1, q2, q3, q4, q5⟩)
        · exact Or.inl q
        · by_cases ei : i = w
          · rw [ei] at q3 q4
            exact absurd ⟨q3, q4⟩ c
          · exact Or.inr ⟨i, by omega, q2, q3, q4, q5⟩
theorem cv_pendingBlocks (fz : Nat) (hz : 400 ≤ fz) (x : Int32) (h : HH) {n : Nat} (hn : n ≤ 300) (h5 : h 21 5 = nI n) (hb : ∀ w, 1 ≤ w → w ≤ n → ∃ a, a < 32 ∧ h 23 w = nI a) : P_T_pendingBlocks fz x h ∧ ∀ j, j < 32 → (bt (B_T_pendingBlocks fz x h) j = true ↔ ∃ i, 1 ≤ i ∧ i ≤ n ∧ h 22 i = x ∧ h 26 i = 1 ∧ h 23 i = nI j) := by
  have q := cf_pendingBlocks fz x h hn h5 hb n fz 1 0 (by omega) (by omega) (by omega)
  rw [← li1] at q
  refine ⟨q.1, fun j hj => ?_⟩
  have q2 := q.2 j hj
  rw [b_0] at q2
  refine Iff.trans q2 ⟨fun r => r.elim (fun r => by cases r) id, Or.inr⟩
def chF (cF cO : Nat) (x a y : Int32) (w n : Nat) (h : HH) : HH := fun c k => if c = cF ∧ (w ≤ k ∧ k ≤ n) ∧ h cO k = x ∧ h cF k = a then y else h c k
theorem chF_end {cF cO : Nat} {x a y : Int32} {w n : Nat} {h : HH} (hw : n < w) : chF cF cO x a y w n h = h := by
  funext c k
  unfold chF
  rw [if_neg (fun q => by omega)]
theorem chF_hit {cF cO : Nat} {x a y : Int32} {w n : Nat} {h : HH} (hne : cO ≠ cF) (hw : w ≤ n) (h1 : h cO w = x) (h2 : h cF w = a) : chF cF cO x a y (w + 1) n (u2 h cF w y) = chF cF cO x a y w n h := by
  funext c k
  unfold chF u2
  by_cases hc : c = cF
  · by_cases hk : k = w
    · subst hc
      subst hk
      simp [h1, h2, hw]
    · have e : (w + 1 ≤ k ∧ k ≤ n) ↔ (w ≤ k ∧ k ≤ n) := by omega
      simp [hc, hk, hne, e]
  · simp [hc]
theorem chF_miss {cF cO : Nat} {x a y : Int32} {w n : Nat} {h : HH} (h1 : ¬ (h cO w = x ∧ h cF w = a)) : chF cF cO x a y (w + 1) n h = chF cF cO x a y w n h := by
  funext c k
  unfold chF
  by_cases hk : k = w
  · subst hk
    have e : ¬ (k + 1 ≤ k ∧ k ≤ n) := by omega
    rw [if_neg (fun q => e q.2.1), if_neg (fun q => h1 q.2.2)]
  · have e : (w + 1 ≤ k ∧ k ≤ n) ↔ (w ≤ k ∧ k ≤ n) := by omega
    simp only [e]

theorem cf_changeFates (fz : Nat) (x a y : Int32) {n : Nat} (hn : n ≤ 300) : ∀ (k fu w : Nat) (h : HH), w + k = n + 1 → k < fu → h 21 5 = nI n → P_T_changeFates_3 fz fu x a y (nI w) h ∧ B_T_changeFates_3 fz fu x a y (nI w) h = chF 26 22 x a y w n h := by
  intro k
  induction k with
  | zero =>
    intro fu w h hk hf h5
    obtain ⟨fu, rfl⟩ : ∃ q, fu = q + 1 := ⟨fu - 1, by omega⟩
    have g : h 21 5 < nI w := by rw [h5]; exact nI_lt (by omega) (by omega)
    simp [P_T_changeFates_3, B_T_changeFates_3, g, chF_end (show n < w by omega)]
  | succ k ih =>
    intro fu w h hk hf h5
    obtain ⟨fu, rfl⟩ : ∃ q, fu = q + 1 := ⟨fu - 1, by omega⟩
    have g : ¬ h 21 5 < nI w := by rw [h5]; exact nI_nlt (by omega) (by omega)
    have hx : ix (nI w) = w := nI_clamp (by omega)
    have hv : vp_in (nI w) 301 := vp_in_nI (by omega) (by decide)
    by_cases c : h 22 w = x ∧ h 26 w = a
    · have i1 := ih fu (w + 1) (u2 h 26 w y) (by omega) (by omega) h5
      rw [chF_hit (by decide) (by omega) c.1 c.2] at i1
      simp [P_T_changeFates_3, B_T_changeFates_3, hx, hv, g, c.1, c.2, nI_1, i1]
    · have i0 := ih fu (w + 1) h (by omega) (by omega) h5
      rw [chF_miss c] at i0
      by_cases c1 : h 22 w = x
      · have c2 : ¬ h 26 w = a := fun q => c ⟨c1, q⟩
        simp [P_T_changeFates_3, B_T_changeFates_3, hx, hv, g, c1, c2, nI_1, i0]
      · simp [P_T_changeFates_3, B_T_changeFates_3, hx, hv, g, c1, nI_1, i0]
theorem cv_changeFates (fz : Nat) (hz : 400 ≤ fz) (x a y : Int32) {n : Nat} (hn : n ≤ 300) (h : HH) (h5 : h 21 5 = nI n) : P_T_changeFates fz x a y h ∧ B_T_changeFates fz x a y h = chF 26 22 x a y 1 n h := by
  have q := cf_changeFates fz x a y hn n fz 1 h (by omega) (by omega) h5
  rw [← li1] at q
  exact q
theorem cf_turnInto (fz : Nat) (x a y : Int32) {n : Nat} (hn : n ≤ 300) : ∀ (k fu w : Nat) (h : HH), w + k = n + 1 → k < fu → h 27 0 = nI n → P_M_turnInto_3 fz fu x a y (nI w) h ∧ B_M_turnInto_3 fz fu x a y (nI w) h = chF 32 28 x a y w n h := by
  intro k
  induction k with
  | zero =>
    intro fu w h hk hf h5
    obtain ⟨fu, rfl⟩ : ∃ q, fu = q + 1 := ⟨fu - 1, by omega⟩
    have g : h 27 0 < nI w := by rw [h5]; exact nI_lt (by omega) (by omega)
    simp [P_M_turnInto_3, B_M_turnInto_3, g, chF_end (show n < w by omega)]
  | succ k ih =>
    intro fu w h hk hf h5
    obtain ⟨fu, rfl⟩ : ∃ q, fu = q + 1 := ⟨fu - 1, by omega⟩
    have g : ¬ h 27 0 < nI w := by rw [h5]; exact nI_nlt (by omega) (by omega)
    have hx : ix (nI w) = w := nI_clamp (by omega)
    have hv : vp_in (nI w) 301 := vp_in_nI (by omega) (by decide)
    by_cases c : h 28 w = x ∧ h 32 w = a
    · have i1 := ih fu (w + 1) (u2 h 32 w y) (by omega) (by omega) h5
      rw [chF_hit (by decide) (by omega) c.1 c.2] at i1
      simp [P_M_turnInto_3, B_M_turnInto_3, hx, hv, g, c.1, c.2, nI_1, i1]
    · have i0 := ih fu (w + 1) h (by omega) (by omega) h5
      rw [chF_miss c] at i0
      by_cases c1 : h 28 w = x
      · have c2 : ¬ h 32 w = a := fun q => c ⟨c1, q⟩
        simp [P_M_turnInto_3, B_M_turnInto_3, hx, hv, g, c1, c2, nI_1, i0]
      · simp [P_M_turnInto_3, B_M_turnInto_3, hx, hv, g, c1, nI_1, i0]
theorem cv_turnInto (fz : Nat) (hz : 400 ≤ fz) (x a y : Int32) {n : Nat} (hn : n ≤ 300) (h : HH) (h5 : h 27 0 = nI n) : P_M_turnInto fz x a y h ∧ B_M_turnInto fz x a y h = chF 32 28 x a y 1 n h := by
  have q := cf_turnInto fz x a y hn n fz 1 h (by omega) (by omega) h5
  rw [← li1] at q
  exact q
theorem cf_leastBlock (fz : Nat) (x : Int32) (h : HH) : ∀ (k fu j : Nat), j + k = 32 → k < fu → P_V_leastBlock_2 fz fu x (nI j) h ∧ B_V_leastBlock_2 fz fu x (nI j) h = oi (fnd (bt x) j k) := by
  intro k
  induction k with
  | zero =>
    intro fu j hk hf
    obtain ⟨fu, rfl⟩ : ∃ q, fu = q + 1 := ⟨fu - 1, by omega⟩
    have g : (32 : Int32) ≤ nI j := by rw [li32]; exact nI_le (by omega) (by omega)
    simp [P_V_leastBlock_2, B_V_leastBlock_2, g, fnd, oi]
  | succ k ih =>
    intro fu j hk hf
    obtain ⟨fu, rfl⟩ : ∃ q, fu = q + 1 := ⟨fu - 1, by omega⟩
    have g : ¬ (32 : Int32) ≤ nI j := by rw [li32]; exact nI_ge (by omega) (by omega)
    have i0 := ih fu (j + 1) (by omega) (by omega)
    have hb := B_hasBlock fz x h (show j < 32 by omega)
    cases hj : bt x j with
    | false =>
      rw [hj, bi_f] at hb
      simp [P_V_leastBlock_2, B_V_leastBlock_2, P_V_hasBlock, g, hb, nI_1, i0, fnd, hj]
    | true =>
      rw [hj, bi_t] at hb
      simp [P_V_leastBlock_2, B_V_leastBlock_2, P_V_hasBlock, g, hb, fnd, hj, oi]
theorem cv_leastBlock (fz : Nat) (hz : 400 ≤ fz) (x : Int32) (h : HH) : P_V_leastBlock fz x h ∧ B_V_leastBlock fz x h = oi (fnd (bt x) 0 32) := by
  have q := cf_leastBlock fz x h 32 fz 0 (by omega) (by omega)
  rw [← li0] at q
  exact q
theorem cf_placeFor_48 (fz : Nat) (i : Nat) (y : Int32) (h : HH) : ∀ (k fu : Nat), k ≤ 3 → k < fu → P_E_placeFor_48 fz fu i y (nI k - 1) h ∧ B_E_placeFor_48 fz fu i y (nI k - 1) h = oi (fndD (fun p => decide (B_V_blocksOfExtent fz (h (i + 3) p) h &&& y = 0)) k) := by
  intro k
  induction k with
  | zero =>
    intro fu hk hf
    obtain ⟨fu, rfl⟩ : ∃ q, fu = q + 1 := ⟨fu - 1, by omega⟩
    have g : nI 0 - 1 < 0 := by decide +kernel
    have e : nI 0 - 1 = -1 := by decide +kernel
    rw [e] at g ⊢
    simp [P_E_placeFor_48, B_E_placeFor_48, g, fndD, oi]
  | succ k ih =>
    intro fu hk hf
    obtain ⟨fu, rfl⟩ : ∃ q, fu = q + 1 := ⟨fu - 1, by omega⟩
    have e : nI (k + 1) - 1 = nI k := nI_pred k
    have g : ¬ nI k < 0 := nI_pos (by omega)
    have hx : ix (nI k) = k := nI_clamp (by omega)
    have hv : vp_in (nI k) 3 := vp_in_nI (by omega) (by decide)
    have i0 := ih fu (by omega) (by omega)
    have e2 : nI k + (-1) = nI k - 1 := by rw [Int32.sub_eq_add_neg]
    rw [e]
    by_cases c : B_V_blocksOfExtent fz (h (i + 3) k) h &&& y = 0
    · simp [P_E_placeFor_48, B_E_placeFor_48, P_V_blocksOfExtent, hx, hv, g, c, fndD, oi]
    · simp [P_E_placeFor_48, B_E_placeFor_48, P_V_blocksOfExtent, hx, hv, g, c, e2, i0, fndD]
theorem cf_placeFor_2 (fz : Nat) (hz : 400 ≤ fz) (i : Nat) (x y : Int32) (h : HH) {s : Nat} (hs : s ≤ 3) (hS : h (i + 2) 1 = nI s) : ∀ (k fu p : Nat), p + k = s → k < fu → P_E_placeFor_2 fz fu i x y (nI p) h ∧ B_E_placeFor_2 fz fu i x y (nI p) h = match fnd (fun p => decide (h (i + 3) p = x)) p k with
    | some p => nI p
    | none => if s < 3 then nI s else oi (fndD (fun p => decide (B_V_blocksOfExtent fz (h (i + 3) p) h &&& y = 0)) s) := by
  intro k
  induction k with
  | zero =>
    intro fu p hk hf
    obtain ⟨fu, rfl⟩ : ∃ q, fu = q + 1 := ⟨fu - 1, by omega⟩
    have g : h (i + 2) 1 ≤ nI p := by rw [hS]; exact nI_le (by omega) (by omega)
    by_cases h3 : s < 3
    · have g3 : ¬ (3 : Int32) ≤ h (i + 2) 1 := by rw [hS, li3]; exact nI_ge (by omega) (by omega)
      rw [hS] at g g3
      simp [P_E_placeFor_2, B_E_placeFor_2, hS, g, g3, fnd, h3]
    · have g3 : (3 : Int32) ≤ h (i + 2) 1 := by rw [hS, li3]; exact nI_le (by omega) (by omega)
      have q := cf_placeFor_48 fz i y h s fz (by omega) (by omega)
      rw [hS] at g g3
      simp [P_E_placeFor_2, B_E_placeFor_2, hS, g, g3, fnd, h3, q]
  | succ k ih =>
    intro fu p hk hf
    obtain ⟨fu, rfl⟩ : ∃ q, fu = q + 1 := ⟨fu - 1, by omega⟩
    have g : ¬ h (i + 2) 1 ≤ nI p := by rw [hS]; exact nI_ge (by omega) (by omega)
    have hx : ix (nI p) = p := nI_clamp (by omega)
    have hv : vp_in (nI p) 3 := vp_in_nI (by omega) (by decide)
    have i0 := ih fu (p + 1) (by omega) (by omega)
    by_cases c : h (i + 3) p = x
    · simp [P_E_placeFor_2, B_E_placeFor_2, g, hx, hv, c, fnd]
    · simp [P_E_placeFor_2, B_E_placeFor_2, g, hx, hv, c, fnd, nI_1, i0]
theorem cv_placeFor (fz : Nat) (hz : 400 ≤ fz) (i : Nat) (x y : Int32) (h : HH) {s : Nat} (hs : s ≤ 3) (hS : h (i + 2) 1 = nI s) : P_E_placeFor fz i x y h ∧ B_E_placeFor fz i x y h = match fnd (fun p => decide (h (i + 3) p = x)) 0 s with
    | some p => nI p
    | none => if s < 3 then nI s else oi (fndD (fun p => decide (B_V_blocksOfExtent fz (h (i + 3) p) h &&& y = 0)) s) := by
  have q := cf_placeFor_2 fz hz i x y h hs hS s fz 0 (by omega) (by omega)
  rw [← li0] at q
  exact q
def pfr (i : Nat) (x : Int32) (p : Nat) (h : HH) : HH := fun c k => if c = i + 3 ∧ k ≤ p then (if k = 0 then x else h (i + 3) (k - 1)) else h c k
theorem cf_putInFront_12 (fz : Nat) (i : Nat) (x z : Int32) : ∀ (k fu : Nat) (h : HH), k < 3 → k < fu → P_E_putInFront_12 fz fu i x z (nI k) h ∧ B_E_putInFront_12 fz fu i x z (nI k) h = B_E_putInFront_43 fz i z (pfr i x k h) := by
  intro k
  induction k with
  | zero =>
    intro fu h hk hf
    obtain ⟨fu, rfl⟩ : ∃ q, fu = q + 1 := ⟨fu - 1, by omega⟩
    have g : nI 0 ≤ 0 := by decide +kernel
    have e : u2 h (i + 3) 0 x = pfr i x 0 h := by
      funext c k
      unfold u2 pfr
      by_cases hc : c = i + 3
      · by_cases hk : k = 0
        · simp [hc, hk]
        · have : ¬ k ≤ 0 := by omega
          simp [hc, hk]
      · simp [hc]
    have hv : vp_in (0 : Int32) 3 := by rw [li0]; exact vp_in_nI (by decide) (by decide)
    have h0 : ix (0 : Int32) = 0 := by decide +kernel
    simp [P_E_putInFront_12, B_E_putInFront_12, P_E_putInFront_43, g, h0, hv, e]
  | succ k ih =>
    intro fu h hk hf
    obtain ⟨fu, rfl⟩ : ∃ q, fu = q + 1 := ⟨fu - 1, by omega⟩
    have g : ¬ nI (k + 1) ≤ 0 := nI_nle (by omega) (by omega)
    have hx : ix (nI (k + 1)) = k + 1 := nI_clamp (by omega)
    have hx2 : ix (nI k) = k := nI_clamp (by omega)
    have hv : vp_in (nI (k + 1)) 3 := vp_in_nI (by omega) (by decide)
    have hv2 : vp_in (nI k) 3 := vp_in_nI (by omega) (by decide)
    have e : pfr i x k (u2 h (i + 3) (k + 1) (h (i + 3) k)) = pfr i x (k + 1) h := by
      funext c j
      unfold u2 pfr
      by_cases hc : c = i + 3
      · by_cases h1 : j ≤ k
        · have h2 : j ≤ k + 1 := by omega
          have h3 : ¬ j - 1 = k + 1 := by omega
          simp [hc, h1, h2, h3]
        · by_cases h2 : j = k + 1
          · simp [hc, h2]
          · have h3 : ¬ j ≤ k + 1 := by omega
            simp [hc, h1, h2, h3]
      · simp [hc]
    have i0 := ih fu (u2 h (i + 3) (k + 1) (h (i + 3) k)) (by omega) (by omega)
    rw [e] at i0
    simp [P_E_putInFront_12, B_E_putInFront_12, g, hx, nI_pred, pk_m1, hx2, hv, hv2, i0]
theorem cv_putInFront (fz : Nat) (hz : 400 ≤ fz) (i : Nat) (x : Int32) (h : HH) {p : Nat} (hp : p < 3) : P_E_putInFront fz i x (nI p) h ∧ B_E_putInFront fz i x (nI p) h = B_E_putInFront_43 fz i (nI p) (pfr i x p h) := by
  have g0 : ¬ nI p < 0 := nI_pos (by omega)
  have g1 : nI p < (3 : Int32) := by rw [li3]; exact nI_lt (by omega) (by omega)
  have q := cf_putInFront_12 fz i x (nI p) p fz h hp (by omega)
  simp [P_E_putInFront, B_E_putInFront, g0, g1, q]
theorem cf_allBlocks (fz : Nat) (i : Nat) (h : HH) {s : Nat} (hs : s ≤ 3) (hS : h (i + 2) 1 = nI s) (he : ∀ p, p < s → ∃ e, e < 8 ∧ h (i + 3) p = nI e) : ∀ (k fu p : Nat) (acc : Int32), p + k = s → k < fu → P_E_allBlocks_4 fz fu i acc (nI p) h ∧ ∀ j, j < 32 → (bt (B_E_allBlocks_4 fz fu i acc (nI p) h) j = true ↔ bt acc j = true ∨ ∃ r, p ≤ r ∧ r < s ∧ h (i + 3) r = nI (j / 4)) := by
  intro k
  induction k with
  | zero =>
    intro fu p acc hk hf
    obtain ⟨fu, rfl⟩ : ∃ q, fu = q + 1 := ⟨fu - 1, by omega⟩
    have g : h (i + 2) 1 ≤ nI p := by rw [hS]; exact nI_le (by omega) (by omega)
    refine ⟨by simp [P_E_allBlocks_4, g], fun j hj => ?_⟩
    simp only [B_E_allBlocks_4, g, if_true]
    exact ⟨Or.inl, fun q => q.elim id (fun ⟨r, a, b, _⟩ => by omega)⟩
  | succ k ih =>
    intro fu p acc hk hf
    obtain ⟨fu, rfl⟩ : ∃ q, fu = q + 1 := ⟨fu - 1, by omega⟩
    have g : ¬ h (i + 2) 1 ≤ nI p := by rw [hS]; exact nI_ge (by omega) (by omega)
    have hx : ix (nI p) = p := nI_clamp (by omega)
    have hv : vp_in (nI p) 3 := vp_in_nI (by omega) (by decide)
    obtain ⟨e, he1, he2⟩ := he p (by omega)
    have i1 := ih fu (p + 1) (acc ||| B_V_blocksOfExtent fz (h (i + 3) p) h) (by omega) (by omega)
    refine ⟨by simp [P_E_allBlocks_4, P_V_blocksOfExtent, hx, hv, g, nI_1, i1.1], fun j hj => ?_⟩
    have ee : B_E_allBlocks_4 fz (fu + 1) i acc (nI p) h = B_E_allBlocks_4 fz fu i (acc ||| B_V_blocksOfExtent fz (h (i + 3) p) h) (nI (p + 1)) h := by simp [B_E_allBlocks_4, hx, g, nI_1]
    have eb : bt (B_V_blocksOfExtent fz (h (i + 3) p) h) j = decide (j / 4 = e) := by
      rw [B_V_blocksOfExtent, he2]
      exact bt_ext15 e he1 j hj
    rw [ee, i1.2 j hj, b_or, eb]
    constructor
    · rintro (q | ⟨r, q1, q2, q3⟩)
      · rcases Bool.or_eq_true_iff.mp q with q | q
        · exact Or.inl q
        · have : j / 4 = e := by simpa using q
          exact Or.inr ⟨p, Nat.le_refl _, by omega, by rw [he2, this]⟩
      · exact Or.inr ⟨r, by omega, q2, q3⟩
    · rintro (q | ⟨r, q1, q2, q3⟩)
      · exact Or.inl (by rw [q]; rfl)
      · by_cases er : r = p
        · rw [er, he2] at q3
          have : e = j / 4 := (nI_eq (by omega) (by omega)).mp q3
          exact Or.inl (by simp [this])
        · exact Or.inr ⟨r, by omega, q2, q3⟩
theorem cv_allBlocks (fz : Nat) (hz : 400 ≤ fz) (i : Nat) (h : HH) {s : Nat} (hs : s ≤ 3) (hS : h (i + 2) 1 = nI s) (he : ∀ p, p < s → ∃ e, e < 8 ∧ h (i + 3) p = nI e) : P_E_allBlocks fz i h ∧ ∀ j, j < 32 → (bt (B_E_allBlocks fz i h) j = true ↔ ∃ r, r < s ∧ h (i + 3) r = nI (j / 4)) := by
  have q := cf_allBlocks fz i h hs hS he s fz 0 0 (by omega) (by omega)
  rw [← li0] at q
  refine ⟨q.1, fun j hj => ?_⟩
  have q2 := q.2 j hj
  rw [b_0] at q2
  refine Iff.trans q2 ⟨fun r => r.elim (fun r => by cases r) (fun ⟨r, _, b⟩ => ⟨r, b⟩), fun ⟨r, b⟩ => Or.inr ⟨r, Nat.zero_le _, b⟩⟩
def wrm (i k s : Nat) (h : HH) : HH := fun c j => if c = i + 9 ∧ k ≤ j ∧ j + 1 < s then h (i + 9) (j + 1) else if c = i + 8 ∧ j = 1 then nI (s - 1) else h c j
theorem cf_remove (fz : Nat) (i : Nat) {s : Nat} (hs : s ≤ 8) : ∀ (r fu k : Nat) (h : HH), k + r + 1 = s → r < fu → h (i + 8) 1 = nI s → P_L_remove_15 fz fu i (nI k) h ∧ B_L_remove_15 fz fu i (nI k) h = wrm i k s h := by
  intro r
  induction r with
  | zero =>
    intro fu k h hk hf h8
    obtain ⟨fu, rfl⟩ : ∃ q, fu = q + 1 := ⟨fu - 1, by omega⟩
    have e1 : nI s - 1 = nI (s - 1) := by rw [li1]; exact pk_sub (by omega)
    have g : nI (s - 1) ≤ nI k := nI_le (by omega) (by omega)
    have e : u2 h (i + 8) 1 (nI (s - 1)) = wrm i k s h := by
      funext c j
      unfold u2 wrm
      have : ¬ (c = i + 9 ∧ k ≤ j ∧ j + 1 < s) := by omega
      rw [if_neg this]
    simp [P_L_remove_15, B_L_remove_15, h8, e1, g, e]
  | succ r ih =>
    intro fu k h hk hf h8
    obtain ⟨fu, rfl⟩ : ∃ q, fu = q + 1 := ⟨fu - 1, by omega⟩
    have e1 : nI s - 1 = nI (s - 1) := by rw [li1]; exact pk_sub (by omega)
    have g : ¬ nI (s - 1) ≤ nI k := nI_ge (by omega) (by omega)
    have hx : ix (nI k) = k := nI_clamp (by omega)
    have hx1 : ix (nI (k + 1)) = k + 1 := nI_clamp (by omega)
    have hv : vp_in (nI k) 8 := vp_in_nI (by omega) (by decide)
    have hv1 : vp_in (nI (k + 1)) 8 := vp_in_nI (by omega) (by decide)
    have i0 := ih fu (k + 1) (u2 h (i + 9) k (h (i + 9) (k + 1))) (by omega) (by omega) (by rw [u2_i h k _ (by omega)]; exact h8)
    have e : wrm i (k + 1) s (u2 h (i + 9) k (h (i + 9) (k + 1))) = wrm i k s h := by
      funext c j
      unfold u2 wrm
      by_cases hc : c = i + 9
      · subst hc
        by_cases h1 : k + 1 ≤ j ∧ j + 1 < s
        · have h2 : k ≤ j ∧ j + 1 < s := by omega
          have h3 : ¬ j + 1 = k := by omega
          simp [h1, h2, h3]
        · by_cases h2 : j = k
          · subst h2
            have h3 : j + 1 < s := by omega
            simp [h3]
          · have h3 : ¬ (k ≤ j ∧ j + 1 < s) := by omega
            simp [h1, h2, h3]
      · simp [hc]
    rw [e] at i0
    simp [P_L_remove_15, B_L_remove_15, h8, e1, g, nI_1, hx, hx1, hv, hv1, i0]
theorem cv_remove (fz : Nat) (hz : 400 ≤ fz) (i : Nat) {s k : Nat} (hs : s ≤ 8) (h : HH) (h8 : h (i + 8) 1 = nI s) (hk : k < s) : P_L_remove fz i (nI k) h ∧ B_L_remove fz i (nI k) h = wrm i k s h := by
  have g0 : ¬ nI k < 0 := nI_pos (by omega)
  have g1 : nI k < h (i + 8) 1 := by rw [h8]; exact nI_lt hk (by omega)
  have q := cf_remove fz i hs (s - 1 - k) fz k h (by omega) (by omega) h8
  simp [P_L_remove, B_L_remove, g0, g1, q]
end
section
theorem cf_pending (fz : Nat) (x f t : Int32) (h : HH) {n : Nat} (hn : n ≤ 300) (h5 : h 27 0 = nI n) : ∀ (k fu w acc : Nat), w + k = n + 1 → k < fu → P_M_pending_6 fz fu x f t (nI acc) (nI w) h ∧ B_M_pending_6 fz fu x f t (nI acc) (nI w) h = nI (acc + cn (fun i => decide (h 32 i = 1 ∧ h 28 i = x ∧ ¬ h 29 i < f ∧ ¬ t < h 29 i)) w k) := by
  intro k
  induction k with
  | zero =>
    intro fu w acc hk hf
    obtain ⟨fu, rfl⟩ : ∃ q, fu = q + 1 := ⟨fu - 1, by omega⟩
    have g : h 27 0 < nI w := by rw [h5]; exact nI_lt (by omega) (by omega)
    simp [P_M_pending_6, B_M_pending_6, g, cn]
  | succ k ih =>
    intro fu w acc hk hf
    obtain ⟨fu, rfl⟩ : ∃ q, fu = q + 1 := ⟨fu - 1, by omega⟩
    have g : ¬ h 27 0 < nI w := by rw [h5]; exact nI_nlt (by omega) (by omega)
    have hx : ix (nI w) = w := nI_clamp (by omega)
    have hv : vp_in (nI w) 301 := vp_in_nI (by omega) (by decide)
    have i0 := ih fu (w + 1) acc (by omega) (by omega)
    have i1 := ih fu (w + 1) (acc + 1) (by omega) (by omega)
    by_cases c1 : h 32 w = 1
    · by_cases c2 : h 28 w = x
      · by_cases c3 : h 29 w < f
        · simp only [P_M_pending_6, B_M_pending_6, hx, hv, g, c1, c2, c3, nI_1, i0, cn, if_true, if_false, not_true_eq_false, not_false_eq_true, true_implies, false_implies, and_true, true_and, and_self, and_false, false_and, decide_false, decide_true, cond_false, cond_true, Nat.zero_add]
        · by_cases c4 : t < h 29 w
          · simp only [P_M_pending_6, B_M_pending_6, hx, hv, g, c1, c2, c3, c4, nI_1, i0, cn, if_true, if_false, not_true_eq_false, not_false_eq_true, true_implies, false_implies, and_true, true_and, and_self, and_false, false_and, decide_false, decide_true, cond_false, cond_true, Nat.zero_add]
          · simp only [P_M_pending_6, B_M_pending_6, hx, hv, g, c1, c2, c3, c4, nI_1, i1, cn, if_true, if_false, not_true_eq_false, not_false_eq_true, true_implies, false_implies, and_true, true_and, and_self, and_false, false_and, decide_false, decide_true, cond_false, cond_true, Nat.add_assoc]
      · simp only [P_M_pending_6, B_M_pending_6, hx, hv, g, c1, c2, nI_1, i0, cn, if_true, if_false, not_true_eq_false, not_false_eq_true, true_implies, false_implies, and_true, true_and, and_self, and_false, false_and, decide_false, decide_true, cond_false, cond_true, Nat.zero_add]
    · simp only [P_M_pending_6, B_M_pending_6, hx, hv, g, c1, nI_1, i0, cn, if_true, if_false, not_true_eq_false, not_false_eq_true, true_implies, false_implies, and_true, true_and, and_self, and_false, false_and, decide_false, decide_true, cond_false, cond_true, Nat.zero_add]
theorem cv_pending (fz : Nat) (hz : 400 ≤ fz) (x f t : Int32) (h : HH) {n : Nat} (hn : n ≤ 300) (h5 : h 27 0 = nI n) : P_M_pending fz x f t h ∧ B_M_pending fz x f t h = nI (cn (fun i => decide (h 32 i = 1 ∧ h 28 i = x ∧ ¬ h 29 i < f ∧ ¬ t < h 29 i)) 1 n) := by
  have q := cf_pending fz x f t h hn h5 n fz 1 0 (by omega) (by omega)
  rw [← li0, ← li1, Nat.zero_add] at q
  exact q
theorem x8 (b e : Nat) : (8 : Int32) * nI b + nI e = nI (8 * b + e) := by rw [li8, pk_mul, nI_add]
theorem x32 (b e : Nat) : (32 : Int32) * nI b + nI e = nI (32 * b + e) := by rw [li32, pk_mul, nI_add]
theorem x64 (b e : Nat) : (64 : Int32) * nI b + nI e = nI (64 * b + e) := by rw [li64, pk_mul, nI_add]
theorem x64' (b : Nat) : (64 : Int32) * nI b = nI (64 * b) := by rw [li64, pk_mul]
theorem x1m {b : Nat} (hb : b < 2) : (1 : Int32) - nI b = nI (1 - b) := by rw [li1]; exact pk_sub (by omega)
theorem x4d {a : Nat} (ha : a < 100) : nI a / (4 : Int32) = nI (a / 4) := by rw [li4]; exact pk_div (by omega) (by decide) (by decide)
theorem cf_inLog (fz : Nat) {b : Nat} (hb : b < 2) (h : HH) : ∀ (k fu e acc : Nat), e + k = 8 → k < fu → P_M_inLog_4 fz fu (nI b) (nI acc) (nI e) h ∧ B_M_inLog_4 fz fu (nI b) (nI acc) (nI e) h = nI (acc + cn (fun i => !decide (h 36 (8 * b + i) = 0)) e k) := by
  intro k
  induction k with
  | zero =>
    intro fu e acc hk hf
    obtain ⟨fu, rfl⟩ : ∃ q, fu = q + 1 := ⟨fu - 1, by omega⟩
    have g : (8 : Int32) ≤ nI e := by rw [li8]; exact nI_le (by omega) (by omega)
    simp [P_M_inLog_4, B_M_inLog_4, g, cn]
  | succ k ih =>
    intro fu e acc hk hf
    obtain ⟨fu, rfl⟩ : ∃ q, fu = q + 1 := ⟨fu - 1, by omega⟩
    have g : ¬ (8 : Int32) ≤ nI e := by rw [li8]; exact nI_ge (by omega) (by omega)
    have hx : ix (nI (8 * b + e)) = 8 * b + e := nI_clamp (by omega)
    have hv : vp_in (nI (8 * b + e)) 16 := vp_in_nI (by omega) (by decide)
    have i0 := ih fu (e + 1) acc (by omega) (by omega)
    have i1 := ih fu (e + 1) (acc + 1) (by omega) (by omega)
    by_cases c1 : h 36 (8 * b + e) = 0
    · simp [P_M_inLog_4, B_M_inLog_4, x8, hx, hv, g, c1, nI_1, i0, cn]
    · simp [P_M_inLog_4, B_M_inLog_4, x8, hx, hv, g, c1, nI_1, i1, cn, Nat.add_assoc]
theorem cv_inLog (fz : Nat) (hz : 400 ≤ fz) {b : Nat} (hb : b < 2) (h : HH) : P_M_inLog fz (nI b) h ∧ B_M_inLog fz (nI b) h = nI (cn (fun i => !decide (h 36 (8 * b + i) = 0)) 0 8) := by
  have q := cf_inLog fz hb h 8 fz 0 0 (by omega) (by omega)
  rw [Nat.zero_add, ← li0] at q
  exact q
theorem cf_nothingInMap (fz : Nat) {b : Nat} (hb : b < 2) (h : HH) : ∀ (k fu j : Nat) (a : Bool), j + k = 32 → k < fu → P_M_nothingInMap_4 fz fu (nI b) (bi a) (nI j) h ∧ (B_M_nothingInMap_4 fz fu (nI b) (bi a) (nI j) h = 0 ↔ ¬ (a = true ∧ ∀ i, j ≤ i → i < 32 → h 35 (32 * b + i) = 0)) := by
  intro k
  induction k with
  | zero =>
    intro fu j a hk hf
    obtain ⟨fu, rfl⟩ : ∃ q, fu = q + 1 := ⟨fu - 1, by omega⟩
    have g : (32 : Int32) ≤ nI j := by rw [li32]; exact nI_le (by omega) (by omega)
    refine ⟨by simp [P_M_nothingInMap_4, g, bi_nar], ?_⟩
    simp only [B_M_nothingInMap_4, g, if_true, bi_0]
    constructor
    · intro q r
      rw [q] at r
      cases r.1
    · intro q
      cases a with
      | false => rfl
      | true => exact absurd ⟨rfl, fun i h1 h2 => by omega⟩ q
  | succ k ih =>
    intro fu j a hk hf
    obtain ⟨fu, rfl⟩ : ∃ q, fu = q + 1 := ⟨fu - 1, by omega⟩
    have g : ¬ (32 : Int32) ≤ nI j := by rw [li32]; exact nI_ge (by omega) (by omega)
    have hx : ix (nI (32 * b + j)) = 32 * b + j := nI_clamp (by omega)
    have hv : vp_in (nI (32 * b + j)) 64 := vp_in_nI (by omega) (by decide)
    have i0 := ih fu (j + 1) false (by omega) (by omega)
    have i1 := ih fu (j + 1) true (by omega) (by omega)
    rw [bi_f] at i0
    rw [bi_t] at i1
    cases a with
    | false =>
      have e : bi false = 0 := rfl
      refine ⟨by simp [P_M_nothingInMap_4, g, e, nI_1, i0.1], ?_⟩
      have ee : B_M_nothingInMap_4 fz (fu + 1) (nI b) (bi false) (nI j) h = B_M_nothingInMap_4 fz fu (nI b) 0 (nI (j + 1)) h := by simp [B_M_nothingInMap_4, g, e, nI_1]
      rw [ee, i0.2]
      simp
    | true =>
      have e : bi true = 1 := rfl
      have e1 : ¬ (1 : Int32) = 0 := by decide
      by_cases c1 : h 35 (32 * b + j) = 0
      · refine ⟨by simp [P_M_nothingInMap_4, g, e, nI_1, x32, hx, hv, c1, i1.1], ?_⟩
        have ee : B_M_nothingInMap_4 fz (fu + 1) (nI b) (bi true) (nI j) h = B_M_nothingInMap_4 fz fu (nI b) 1 (nI (j + 1)) h := by simp [B_M_nothingInMap_4, g, e, nI_1, x32, hx, c1]
        rw [ee, i1.2]
        constructor
        · intro q r
          exact q ⟨rfl, fun i h1 h2 => r.2 i (by omega) h2⟩
        · intro q r
          refine q ⟨rfl, fun i h1 h2 => ?_⟩
          by_cases ei : i = j
          · rw [ei]; exact c1
          · exact r.2 i (by omega) h2
      · refine ⟨by simp [P_M_nothingInMap_4, g, e, nI_1, x32, hx, hv, c1, i0.1], ?_⟩
        have ee : B_M_nothingInMap_4 fz (fu + 1) (nI b) (bi true) (nI j) h = B_M_nothingInMap_4 fz fu (nI b) 0 (nI (j + 1)) h := by simp [B_M_nothingInMap_4, g, e, nI_1, x32, hx, c1]
        rw [ee, i0.2]
        constructor
        · intro q r
          exact c1 (r.2 j (Nat.le_refl _) (by omega))
        · intro q r
          cases r.1
theorem cv_nothingInMap (fz : Nat) (hz : 400 ≤ fz) {b : Nat} (hb : b < 2) (h : HH) : P_M_nothingInMap fz (nI b) h ∧ (B_M_nothingInMap fz (nI b) h = 0 ↔ ¬ ∀ i, i < 32 → h 35 (32 * b + i) = 0) := by
  have q := cf_nothingInMap fz hb h 32 fz 0 true (by omega) (by omega)
  rw [bi_t, ← li0] at q
  refine ⟨q.1, Iff.trans q.2 (not_congr ⟨fun r i hi => r.2 i (Nat.zero_le _) hi, fun r => ⟨rfl, fun i _ hi => r i hi⟩⟩)⟩
theorem cf_onTheWay (fz : Nat) {b c : Nat} (hb : b < 2) (x y : Int32) (h : HH) (hc : c ≤ 25) (h5 : h 51 b = nI c) : ∀ (k fu i acc : Nat), i + k = c → k < fu → P_M_onTheWay_9 fz fu (nI b) x y (nI acc) (nI (64 * b + i)) h ∧ B_M_onTheWay_9 fz fu (nI b) x y (nI acc) (nI (64 * b + i)) h = nI (acc + cn (fun j => decide (h 48 (64 * b + j) = x ∧ (y < 0 ∨ h 49 (64 * b + j) = y))) i k) := by
  intro k
  induction k with
  | zero =>
    intro fu i acc hk hf
    obtain ⟨fu, rfl⟩ : ∃ q, fu = q + 1 := ⟨fu - 1, by omega⟩
    have hxb : ix (nI b) = b := nI_clamp (by omega)
    have hvb : vp_in (nI b) 2 := vp_in_nI hb (by decide)
    have g : nI (64 * b + c) ≤ nI (64 * b + i) := nI_le (by omega) (by omega)
    simp [P_M_onTheWay_9, B_M_onTheWay_9, hxb, hvb, h5, x64, g, cn]
  | succ k ih =>
    intro fu i acc hk hf
    obtain ⟨fu, rfl⟩ : ∃ q, fu = q + 1 := ⟨fu - 1, by omega⟩
    have hxb : ix (nI b) = b := nI_clamp (by omega)
    have hvb : vp_in (nI b) 2 := vp_in_nI hb (by decide)
    have g : ¬ nI (64 * b + c) ≤ nI (64 * b + i) := nI_ge (by omega) (by omega)
    have hx : ix (nI (64 * b + i)) = 64 * b + i := nI_clamp (by omega)
    have hv : vp_in (nI (64 * b + i)) 128 := vp_in_nI (by omega) (by decide)
    have i0 := ih fu (i + 1) acc (by omega) (by omega)
    have i1 := ih fu (i + 1) (acc + 1) (by omega) (by omega)
    rw [← Nat.add_assoc] at i0 i1
    by_cases c1 : h 48 (64 * b + i) = x
    · by_cases c2 : y < 0
      · simp [P_M_onTheWay_9, B_M_onTheWay_9, hxb, hvb, h5, x64, g, hx, hv, c1, c2, nI_1, i1, cn, Nat.add_assoc acc 1]
      · by_cases c3 : h 49 (64 * b + i) = y
        · simp [P_M_onTheWay_9, B_M_onTheWay_9, hxb, hvb, h5, x64, g, hx, hv, c1, c2, c3, nI_1, i1, cn, Nat.add_assoc acc 1]
        · simp [P_M_onTheWay_9, B_M_onTheWay_9, hxb, hvb, h5, x64, g, hx, hv, c1, c2, c3, nI_1, i0, cn]
    · simp [P_M_onTheWay_9, B_M_onTheWay_9, hxb, hvb, h5, x64, g, hx, hv, c1, nI_1, i0, cn]
theorem cv_onTheWay (fz : Nat) (hz : 400 ≤ fz) {b c : Nat} (hb : b < 2) (x y : Int32) (h : HH) (hc : c ≤ 25) (h5 : h 51 b = nI c) : P_M_onTheWay fz (nI b) x y h ∧ B_M_onTheWay fz (nI b) x y h = nI (cn (fun j => decide (h 48 (64 * b + j) = x ∧ (y < 0 ∨ h 49 (64 * b + j) = y))) 0 c) := by
  have q := cf_onTheWay fz hb x y h hc h5 c fz 0 0 (by omega) (by omega)
  rw [Nat.add_zero, Nat.zero_add, ← li0, ← x64'] at q
  exact q
def rs (c0 a e : Nat) (f : Nat → Int32) (h : HH) : HH := fun c k => if c = c0 ∧ a ≤ k ∧ k < e then f k else h c k
theorem rs_end {c0 a e : Nat} {f : Nat → Int32} {h : HH} (he : e ≤ a) : rs c0 a e f h = h := by
  funext c k
  unfold rs
  rw [if_neg (fun q => by omega)]
theorem rs_step {c0 a e : Nat} {f : Nat → Int32} {h : HH} (he : a < e) {y : Int32} (hy : f a = y) : rs c0 (a + 1) e f (u2 h c0 a y) = rs c0 a e f h := by
  funext c k
  unfold rs u2
  by_cases hc : c = c0
  · by_cases hk : k = a
    · subst hc
      subst hk
      simp [he, hy]
    · have e1 : (a + 1 ≤ k ∧ k < e) ↔ (a ≤ k ∧ k < e) := by omega
      simp [hc, hk, e1]
  · simp [hc]
theorem rs_skip {c0 a e : Nat} {f : Nat → Int32} {h : HH} (hf : f a = h c0 a) : rs c0 (a + 1) e f h = rs c0 a e f h := by
  funext c k
  unfold rs
  by_cases hk : k = a
  · subst hk
    by_cases hc : c = c0
    · subst hc
      by_cases he : k < e
      · simp [he, hf]
      · simp [he]
    · simp [hc]
  · have e1 : (a + 1 ≤ k ∧ k < e) ↔ (a ≤ k ∧ k < e) := by omega
    simp only [e1]
theorem rs_row {c0 a e : Nat} {f : Nat → Int32} {h : HH} {c : Nat} (hc : c ≠ c0) : rs c0 a e f h c = h c := by
  funext k
  unfold rs
  rw [if_neg (fun q => hc q.1)]
theorem cf_finish (fz : Nat) {b : Nat} (hb : b < 2) (x : Int32) : ∀ (k fu j : Nat) (h : HH), j + k = 32 → k < fu → P_M_arrive_139 fz fu (nI b) x (nI j) h ∧ B_M_arrive_139 fz fu (nI b) x (nI j) h = u2 (u2 (rs 35 (32 * b + j) (32 * b + 32) (fun _ => 0) h) 38 b x) 39 b 0 := by
  intro k
  induction k with
  | zero =>
    intro fu j h hk hf
    obtain ⟨fu, rfl⟩ : ∃ q, fu = q + 1 := ⟨fu - 1, by omega⟩
    have g : (32 : Int32) ≤ nI j := by rw [li32]; exact nI_le (by omega) (by omega)
    have hxb : ix (nI b) = b := nI_clamp (by omega)
    have hvb : vp_in (nI b) 2 := vp_in_nI hb (by decide)
    simp [P_M_arrive_139, B_M_arrive_139, g, hxb, hvb, rs_end (show 32 * b + 32 ≤ 32 * b + j by omega)]
  | succ k ih =>
    intro fu j h hk hf
    obtain ⟨fu, rfl⟩ : ∃ q, fu = q + 1 := ⟨fu - 1, by omega⟩
    have g : ¬ (32 : Int32) ≤ nI j := by rw [li32]; exact nI_ge (by omega) (by omega)
    have hx : ix (nI (32 * b + j)) = 32 * b + j := nI_clamp (by omega)
    have hv : vp_in (nI (32 * b + j)) 64 := vp_in_nI (by omega) (by decide)
    have i0 := ih fu (j + 1) (u2 h 35 (32 * b + j) 0) (by omega) (by omega)
    rw [← Nat.add_assoc, rs_step (by omega) rfl] at i0
    simp [P_M_arrive_139, B_M_arrive_139, g, x32, hx, hv, nI_1, i0]
theorem cf_discard (fz : Nat) {b : Nat} (hb : b < 2) : ∀ (k fu j : Nat) (h : HH), j + k = 32 → k < fu → P_M_turnInto fz (nI b) 3 4 (rs 35 (32 * b + j) (32 * b + 32) (fun _ => 0) h) → P_M_discard_75 fz fu (nI b) (nI j) h ∧ B_M_discard_75 fz fu (nI b) (nI j) h = (1, B_M_turnInto fz (nI b) 3 4 (rs 35 (32 * b + j) (32 * b + 32) (fun _ => 0) h)) := by
  intro k
  induction k with
  | zero =>
    intro fu j h hk hf hp
    obtain ⟨fu, rfl⟩ : ∃ q, fu = q + 1 := ⟨fu - 1, by omega⟩
    have g : (32 : Int32) ≤ nI j := by rw [li32]; exact nI_le (by omega) (by omega)
    rw [rs_end (show 32 * b + 32 ≤ 32 * b + j by omega)] at hp ⊢
    simp [P_M_discard_75, B_M_discard_75, g, hp]
  | succ k ih =>
    intro fu j h hk hf hp
    obtain ⟨fu, rfl⟩ : ∃ q, fu = q + 1 := ⟨fu - 1, by omega⟩
    have g : ¬ (32 : Int32) ≤ nI j := by rw [li32]; exact nI_ge (by omega) (by omega)
    have hx : ix (nI (32 * b + j)) = 32 * b + j := nI_clamp (by omega)
    have hv : vp_in (nI (32 * b + j)) 64 := vp_in_nI (by omega) (by decide)
    have e : rs 35 (32 * b + (j + 1)) (32 * b + 32) (fun _ => 0) (u2 h 35 (32 * b + j) 0) = rs 35 (32 * b + j) (32 * b + 32) (fun _ => 0) h := by
      rw [← Nat.add_assoc]
      exact rs_step (by omega) rfl
    have i0 := ih fu (j + 1) (u2 h 35 (32 * b + j) 0) (by omega) (by omega) (by rw [e]; exact hp)
    rw [e] at i0
    simp [P_M_discard_75, B_M_discard_75, g, x32, hx, hv, nI_1, i0]
theorem cf_restart (fz : Nat) {b : Nat} (hb : b < 2) (h0 : HH) : ∀ (k fu j : Nat) (h : HH), j + k = 32 → k < fu → (∀ i, h 41 i = h0 41 i) → (∀ i, h 36 i = h0 36 i) → (∀ i, 32 * b + j ≤ i → h 35 i = h0 35 i) → P_M_restart_27 fz fu (nI b) (nI j) h ∧ B_M_restart_27 fz fu (nI b) (nI j) h = (1, rs 35 (32 * b + j) (32 * b + 32) (fun i => if ¬ h0 41 b = 0 ∧ ¬ h0 36 (8 * b + (i - 32 * b) / 4) = 0 then 1 else h0 35 i) h) := by
  intro k
  induction k with
  | zero =>
    intro fu j h hk hf h41 h36 h35
    obtain ⟨fu, rfl⟩ : ∃ q, fu = q + 1 := ⟨fu - 1, by omega⟩
    have g : (32 : Int32) ≤ nI j := by rw [li32]; exact nI_le (by omega) (by omega)
    simp [P_M_restart_27, B_M_restart_27, g, rs_end (show 32 * b + 32 ≤ 32 * b + j by omega)]
  | succ k ih =>
    intro fu j h hk hf h41 h36 h35
    obtain ⟨fu, rfl⟩ : ∃ q, fu = q + 1 := ⟨fu - 1, by omega⟩
    have g : ¬ (32 : Int32) ≤ nI j := by rw [li32]; exact nI_ge (by omega) (by omega)
    have hxb : ix (nI b) = b := nI_clamp (by omega)
    have hvb : vp_in (nI b) 2 := vp_in_nI hb (by decide)
    have hx : ix (nI (32 * b + j)) = 32 * b + j := nI_clamp (by omega)
    have hv : vp_in (nI (32 * b + j)) 64 := vp_in_nI (by omega) (by decide)
    have hx8 : ix (nI (8 * b + j / 4)) = 8 * b + j / 4 := nI_clamp (by omega)
    have hv8 : vp_in (nI (8 * b + j / 4)) 16 := vp_in_nI (by omega) (by decide)
    have e4 : nI j / (4 : Int32) = nI (j / 4) := x4d (by omega)
    have ej : 32 * b + j - 32 * b = j := by omega
    by_cases c : ¬ h 41 b = 0 ∧ ¬ h 36 (8 * b + j / 4) = 0
    · have i1 := ih fu (j + 1) (u2 h 35 (32 * b + j) 1) (by omega) (by omega) h41 h36 (fun i hi => by
        rw [u2_k h 1 35 (show i ≠ 32 * b + j by omega)]
        exact h35 i (by omega))
      rw [← Nat.add_assoc, rs_step (by omega) (by simp only [ej, ← h41, ← h36, if_pos c])] at i1
      simp [P_M_restart_27, B_M_restart_27, g, x32, x8, e4, hx, hv, hx8, hv8, hxb, hvb, nI_1, c.1, c.2, i1]
    · have i0 := ih fu (j + 1) h (by omega) (by omega) h41 h36 (fun i hi => h35 i (by omega))
      rw [← Nat.add_assoc, rs_skip (by simp only [ej, ← h41, ← h36, if_neg c]; exact (h35 _ (Nat.le_refl _)).symm)] at i0
      by_cases c1 : h 41 b = 0
      · simp [P_M_restart_27, B_M_restart_27, g, hxb, hvb, nI_1, c1, i0]
      · have c2 : h 36 (8 * b + j / 4) = 0 := Classical.byContradiction (fun q => c ⟨c1, q⟩)
        simp [P_M_restart_27, B_M_restart_27, g, x8, e4, hx8, hv8, hxb, hvb, nI_1, c1, c2, i0]
theorem cf_connect (fz : Nat) {s t : Nat} (hs : s < 2) (ht : t < 2) (hst : s ≠ t) (x : Int32) (h0 : HH) : ∀ (k fu j : Nat) (h : HH), j + k = 32 → k < fu → (∀ i, i < 32 → h 35 (32 * t + i) = h0 35 (32 * t + i)) → (∀ i, j ≤ i → i < 32 → h 35 (32 * s + i) = h0 35 (32 * s + i)) → P_M_connect_232 fz (nI s) (u2 (u2 (u2 (rs 35 (32 * s + j) (32 * s + 32) (fun i => bi (!(decide (x = 0) && decide (h0 35 i = 0) && decide (h0 35 (32 * t + (i - 32 * s)) = 0)))) h) 44 s 1) 45 t 1) 40 t 1) → P_M_connect_147 fz fu (nI s) (nI t) x (nI j) h ∧ B_M_connect_147 fz fu (nI s) (nI t) x (nI j) h = B_M_connect_232 fz (nI s) (u2 (u2 (u2 (rs 35 (32 * s + j) (32 * s + 32) (fun i => bi (!(decide (x = 0) && decide (h0 35 i = 0) && decide (h0 35 (32 * t + (i - 32 * s)) = 0)))) h) 44 s 1) 45 t 1) 40 t 1) := by
  intro k
  induction k with
  | zero =>
    intro fu j h hk hf ht35 hs35 hp
    obtain ⟨fu, rfl⟩ : ∃ q, fu = q + 1 := ⟨fu - 1, by omega⟩
    have g : (32 : Int32) ≤ nI j := by rw [li32]; exact nI_le (by omega) (by omega)
    have hxs : ix (nI s) = s := nI_clamp (by omega)
    have hvs : vp_in (nI s) 2 := vp_in_nI hs (by decide)
    have hxt : ix (nI t) = t := nI_clamp (by omega)
    have hvt : vp_in (nI t) 2 := vp_in_nI ht (by decide)
    rw [rs_end (show 32 * s + 32 ≤ 32 * s + j by omega)] at hp ⊢
    simp [P_M_connect_147, B_M_connect_147, g, hxs, hvs, hxt, hvt, hp]
  | succ k ih =>
    intro fu j h hk hf ht35 hs35 hp
    obtain ⟨fu, rfl⟩ : ∃ q, fu = q + 1 := ⟨fu - 1, by omega⟩
    have g : ¬ (32 : Int32) ≤ nI j := by rw [li32]; exact nI_ge (by omega) (by omega)
    have hx : ix (nI (32 * s + j)) = 32 * s + j := nI_clamp (by omega)
    have hv : vp_in (nI (32 * s + j)) 64 := vp_in_nI (by omega) (by decide)
    have hx2 : ix (nI (32 * t + j)) = 32 * t + j := nI_clamp (by omega)
    have hv2 : vp_in (nI (32 * t + j)) 64 := vp_in_nI (by omega) (by decide)
    have ej : 32 * s + j - 32 * s = j := by omega
    have hA := hs35 j (Nat.le_refl _) (by omega)
    have hB := ht35 j (by omega)
    have key : ∀ y : Int32, y = bi (!(decide (x = 0) && decide (h0 35 (32 * s + j) = 0) && decide (h0 35 (32 * t + j) = 0))) → P_M_connect_147 fz fu (nI s) (nI t) x (nI (j + 1)) (u2 h 35 (32 * s + j) y) ∧ B_M_connect_147 fz fu (nI s) (nI t) x (nI (j + 1)) (u2 h 35 (32 * s + j) y) = B_M_connect_232 fz (nI s) (u2 (u2 (u2 (rs 35 (32 * s + j) (32 * s + 32) (fun i => bi (!(decide (x = 0) && decide (h0 35 i = 0) && decide (h0 35 (32 * t + (i - 32 * s)) = 0)))) h) 44 s 1) 45 t 1) 40 t 1) := by
      intro y hy
      have e : rs 35 (32 * s + (j + 1)) (32 * s + 32) (fun i => bi (!(decide (x = 0) && decide (h0 35 i = 0) && decide (h0 35 (32 * t + (i - 32 * s)) = 0)))) (u2 h 35 (32 * s + j) y) = rs 35 (32 * s + j) (32 * s + 32) (fun i => bi (!(decide (x = 0) && decide (h0 35 i = 0) && decide (h0 35 (32 * t + (i - 32 * s)) = 0)))) h := by
        rw [← Nat.add_assoc]
        exact rs_step (by omega) (by simp only [ej]; exact hy.symm)
      have q := ih fu (j + 1) (u2 h 35 (32 * s + j) y) (by omega) (by omega) (fun i hi => by
        rw [u2_k h y 35 (show 32 * t + i ≠ 32 * s + j by omega)]
        exact ht35 i hi) (fun i h1 h2 => by
        rw [u2_k h y 35 (show 32 * s + i ≠ 32 * s + j by omega)]
        exact hs35 i (by omega) h2) (by rw [e]; exact hp)
      rw [e] at q
      exact q
    by_cases c0 : x = 0
    · by_cases c1 : h 35 (32 * s + j) = 0
      · by_cases c2 : h 35 (32 * t + j) = 0
        · have q := key 0 (by rw [← hA, ← hB]; simp [c0, c1, c2, bi])
          simp only [P_M_connect_147, B_M_connect_147, g, c0, c1, c2, x32, hx, hv, hx2, hv2, nI_1, if_true, if_false, not_true_eq_false, not_false_eq_true, true_implies, false_implies, and_true, true_and] at q ⊢
          exact q
        · have q := key 1 (by rw [← hA, ← hB]; simp [c0, c1, c2, bi])
          simp only [P_M_connect_147, B_M_connect_147, g, c0, c1, c2, x32, hx, hv, hx2, hv2, nI_1, if_true, if_false, not_true_eq_false, not_false_eq_true, true_implies, false_implies, and_true, true_and] at q ⊢
          exact q
      · have q := key 1 (by rw [← hA, ← hB]; simp [c0, c1, bi])
        simp only [P_M_connect_147, B_M_connect_147, g, c0, c1, x32, hx, hv, hx2, hv2, nI_1, if_true, if_false, not_true_eq_false, not_false_eq_true, true_implies, false_implies, and_true, true_and] at q ⊢
        exact q
    · have q := key 1 (by rw [← hA, ← hB]; simp [c0, bi])
      simp only [P_M_connect_147, B_M_connect_147, g, c0, x32, hx, hv, hx2, hv2, nI_1, if_true, if_false, not_true_eq_false, not_false_eq_true, true_implies, false_implies, and_true, true_and] at q ⊢
      exact q
theorem cf_map (fz : Nat) {b : Nat} (hb : b < 2) (h : HH) : ∀ (k fu j : Nat) (acc : Int32), j + k = 32 → k < fu → P_M_map_13 fz fu (nI b) acc (nI j) h ∧ ∀ i, i < 32 → (bt (B_M_map_13 fz fu (nI b) acc (nI j) h) i = true ↔ bt acc i = true ∨ (j ≤ i ∧ ¬ h 35 (32 * b + i) = 0)) := by
  intro k
  induction k with
  | zero =>
    intro fu j acc hk hf
    obtain ⟨fu, rfl⟩ : ∃ q, fu = q + 1 := ⟨fu - 1, by omega⟩
    have g : (32 : Int32) ≤ nI j := by rw [li32]; exact nI_le (by omega) (by omega)
    refine ⟨by simp [P_M_map_13, g], fun i hi => ?_⟩
    simp only [B_M_map_13, g, if_true]
    exact ⟨Or.inl, fun q => q.elim id (fun r => by omega)⟩
  | succ k ih =>
    intro fu j acc hk hf
    obtain ⟨fu, rfl⟩ : ∃ q, fu = q + 1 := ⟨fu - 1, by omega⟩
    have g : ¬ (32 : Int32) ≤ nI j := by rw [li32]; exact nI_ge (by omega) (by omega)
    have hx : ix (nI (32 * b + j)) = 32 * b + j := nI_clamp (by omega)
    have hv : vp_in (nI (32 * b + j)) 64 := vp_in_nI (by omega) (by decide)
    have i0 := ih fu (j + 1) acc (by omega) (by omega)
    have i1 := ih fu (j + 1) (acc ||| ((1 : Int32) <<< (nI j &&& 31))) (by omega) (by omega)
    by_cases c : h 35 (32 * b + j) = 0
    · refine ⟨by simp [P_M_map_13, g, x32, hx, hv, c, nI_1, i0.1], fun i hi => ?_⟩
      have e : B_M_map_13 fz (fu + 1) (nI b) acc (nI j) h = B_M_map_13 fz fu (nI b) acc (nI (j + 1)) h := by simp [B_M_map_13, g, x32, hx, c, nI_1]
      rw [e, i0.2 i hi]
      constructor
      · rintro (q | q)
        · exact Or.inl q
        · exact Or.inr ⟨by omega, q.2⟩
      · rintro (q | q)
        · exact Or.inl q
        · by_cases ei : i = j
          · rw [ei] at q
            exact absurd c q.2
          · exact Or.inr ⟨by omega, q.2⟩
    · refine ⟨by simp [P_M_map_13, g, x32, hx, hv, c, nI_1, i1.1], fun i hi => ?_⟩
      have e : B_M_map_13 fz (fu + 1) (nI b) acc (nI j) h = B_M_map_13 fz fu (nI b) (acc ||| ((1 : Int32) <<< (nI j &&& 31))) (nI (j + 1)) h := by simp [B_M_map_13, g, x32, hx, c, nI_1]
      rw [e, i1.2 i hi, bt_set acc (by omega) hi]
      constructor
      · rintro (q | q)
        · rcases Bool.or_eq_true_iff.mp q with q | q
          · exact Or.inl q
          · have : i = j := by simpa using q
            exact Or.inr ⟨by omega, by rw [this]; exact c⟩
        · exact Or.inr ⟨by omega, q.2⟩
      · rintro (q | q)
        · exact Or.inl (by rw [q]; rfl)
        · by_cases ei : i = j
          · exact Or.inl (by simp [ei])
          · exact Or.inr ⟨by omega, q.2⟩
def sh3 (a e : Nat) (h : HH) : HH := fun c k => if (c = 48 ∨ c = 49 ∨ c = 50) ∧ a ≤ k ∧ k < e then h c (k + 1) else h c k
theorem sh3_end {a e : Nat} {h : HH} (he : e ≤ a) : sh3 a e h = h := by
  funext c k
  unfold sh3
  rw [if_neg (fun q => by omega)]
theorem sh3_step {a e : Nat} {h : HH} (he : a < e) : sh3 (a + 1) e (u2 (u2 (u2 h 48 a (h 48 (a + 1))) 49 a (h 49 (a + 1))) 50 a (h 50 (a + 1))) = sh3 a e h := by
  funext c k
  unfold sh3 u2
  by_cases hk : k = a
  · subst hk
    have e1 : ¬ (k + 1 ≤ k ∧ k < e) := by omega
    by_cases h1 : c = 48
    · subst h1; simp [he]
    · by_cases h2 : c = 49
      · subst h2; simp [he]
      · by_cases h3 : c = 50
        · subst h3; simp [he]
        · simp [h1, h2, h3]
  · have e1 : (a + 1 ≤ k ∧ k < e) ↔ (a ≤ k ∧ k < e) := by omega
    by_cases h4 : a ≤ k
    · have h5 : ¬ k + 1 = a := by omega
      simp [hk, e1, h5]
    · simp [hk, e1, h4]
theorem cf_deliver (fz : Nat) {b : Nat} (hb : b < 2) {c : Nat} (hc : c ≤ 25) (x y z : Int32) : ∀ (k fu i : Nat) (h : HH), i + k = c → k < fu → h 51 b = nI c → P_M_arrive fz (nI (1 - b)) x y z (sh3 (64 * b + i) (64 * b + c) h) → P_M_deliver_59 fz fu (nI b) (nI (64 * b)) x y z (nI (64 * b + i)) h ∧ B_M_deliver_59 fz fu (nI b) (nI (64 * b)) x y z (nI (64 * b + i)) h = (x, B_M_arrive fz (nI (1 - b)) x y z (sh3 (64 * b + i) (64 * b + c) h)) := by
  intro k
  induction k with
  | zero =>
    intro fu i h hk hf h5 hp
    obtain ⟨fu, rfl⟩ : ∃ q, fu = q + 1 := ⟨fu - 1, by omega⟩
    have hxb : ix (nI b) = b := nI_clamp (by omega)
    have hvb : vp_in (nI b) 2 := vp_in_nI hb (by decide)
    have g : nI (64 * b + c) ≤ nI (64 * b + i) := nI_le (by omega) (by omega)
    rw [sh3_end (show 64 * b + c ≤ 64 * b + i by omega)] at hp ⊢
    simp [P_M_deliver_59, B_M_deliver_59, hxb, hvb, h5, nI_add, g, x1m hb, hp]
  | succ k ih =>
    intro fu i h hk hf h5 hp
    obtain ⟨fu, rfl⟩ : ∃ q, fu = q + 1 := ⟨fu - 1, by omega⟩
    have hxb : ix (nI b) = b := nI_clamp (by omega)
    have hvb : vp_in (nI b) 2 := vp_in_nI hb (by decide)
    have g : ¬ nI (64 * b + c) ≤ nI (64 * b + i) := nI_ge (by omega) (by omega)
    have hx : ix (nI (64 * b + i)) = 64 * b + i := nI_clamp (by omega)
    have hv : vp_in (nI (64 * b + i)) 128 := vp_in_nI (by omega) (by decide)
    have hx1 : ix (nI (64 * b + i + 1)) = 64 * b + i + 1 := nI_clamp (by omega)
    have hv1 : vp_in (nI (64 * b + i + 1)) 128 := vp_in_nI (by omega) (by decide)
    have e1 : ∀ y k, u2 h 48 (64 * b + i) y 49 k = h 49 k := fun y k => rfl
    have e2 : ∀ y y' k, u2 (u2 h 48 (64 * b + i) y) 49 (64 * b + i) y' 50 k = h 50 k := fun y y' k => rfl
    have i0 := ih fu (i + 1) (u2 (u2 (u2 h 48 (64 * b + i) (h 48 (64 * b + i + 1))) 49 (64 * b + i) (h 49 (64 * b + i + 1))) 50 (64 * b + i) (h 50 (64 * b + i + 1))) (by omega) (by omega) h5 (by rw [← Nat.add_assoc, sh3_step (by omega)]; exact hp)
    rw [← Nat.add_assoc, sh3_step (by omega)] at i0
    simp only [P_M_deliver_59, B_M_deliver_59, hxb, hvb, h5, nI_add, g, nI_1, hx, hv, hx1, hv1, e1, e2, if_false, not_false_eq_true, true_implies, false_implies, and_true, true_and]
    exact i0
theorem cf_copy (fz : Nat) {b : Nat} (hb : b < 2) (h : HH) (U N : Nat → Nat) (hU : ∀ j, j < 32 → P_M_underWay fz (nI b) (nI j) h ∧ B_M_underWay fz (nI b) (nI j) h = nI (U j) ∧ U j < 1000) (hN : ∀ j, j < 32 → P_M_pending fz (nI b) (nI j) (nI j) h ∧ B_M_pending fz (nI b) (nI j) (nI j) h = nI (N j) ∧ N j < 1000) (hS : ∀ j, j < 32 → P_M_send fz (nI b) 3 (nI j) (h 34 (32 * b + j)) h) : ∀ (k fu j : Nat), j + k = 32 → k < fu → P_M_copy_30 fz fu (nI b) (nI j) h ∧ B_M_copy_30 fz fu (nI b) (nI j) h = match fnd (fun j => !decide (h 35 (32 * b + j) = 0) && decide (U j = 0) && decide (N j = 0)) j k with
    | some j => (nI j, B_M_send fz (nI b) 3 (nI j) (h 34 (32 * b + j)) h)
    | none => (-1, h) := by
  intro k
  induction k with
  | zero =>
    intro fu j hk hf
    obtain ⟨fu, rfl⟩ : ∃ q, fu = q + 1 := ⟨fu - 1, by omega⟩
    have g : (32 : Int32) ≤ nI j := by rw [li32]; exact nI_le (by omega) (by omega)
    simp [P_M_copy_30, B_M_copy_30, g, fnd]
  | succ k ih =>
    intro fu j hk hf
    obtain ⟨fu, rfl⟩ : ∃ q, fu = q + 1 := ⟨fu - 1, by omega⟩
    have g : ¬ (32 : Int32) ≤ nI j := by rw [li32]; exact nI_ge (by omega) (by omega)
    have hx : ix (nI (32 * b + j)) = 32 * b + j := nI_clamp (by omega)
    have hv : vp_in (nI (32 * b + j)) 64 := vp_in_nI (by omega) (by decide)
    have i0 := ih fu (j + 1) (by omega) (by omega)
    obtain ⟨q1, q2, q3⟩ := hU j (by omega)
    obtain ⟨n1, n2, n3⟩ := hN j (by omega)
    have eU : nI (U j) = 0 ↔ U j = 0 := by rw [li0]; exact nI_eq (by omega) (by omega)
    have eN : nI (N j) = 0 ↔ N j = 0 := by rw [li0]; exact nI_eq (by omega) (by omega)
    by_cases c1 : h 35 (32 * b + j) = 0
    · simp [P_M_copy_30, B_M_copy_30, g, x32, hx, hv, c1, nI_1, i0, fnd]
    · by_cases c2 : U j = 0
      · by_cases c3 : N j = 0
        · simp [P_M_copy_30, B_M_copy_30, g, x32, hx, hv, c1, c2, c3, nI_0, nI_1, q1, q2, n1, n2, eU, eN, hS j (by omega), fnd]
        · simp [P_M_copy_30, B_M_copy_30, g, x32, hx, hv, c1, c2, c3, nI_0, nI_1, q1, q2, n1, n2, eU, eN, i0, fnd]
      · simp [P_M_copy_30, B_M_copy_30, g, x32, hx, hv, c1, c2, nI_1, q1, q2, eU, i0, fnd]
end
section
def sto (ep : Nat → Int32) (f kk : Nat) : List Nat → Nat → Option Nat
  | [], _ => none
  | w :: R, s => if ep w = ep f then (if s = kk then some w else sto ep f kk R (s + 1)) else sto ep f kk R s
def sto0 (ep : Nat → Int32) (kk : Nat) : List Nat → Option Nat
  | [] => none
  | w :: R => sto ep w kk (w :: R) 0
def wP (b : Nat) (h : HH) : Nat → Bool := fun w => !decide (h 33 w = 0) && decide (h 28 w = nI (1 - b))
theorem cf_store1 (fz : Nat) {b : Nat} (hb : b < 2) {n kk : Nat} (hn : n ≤ 300) (hkk : kk < 2 ^ 31) (h : HH) (h5 : h 27 0 = nI n) (hP : ∀ w, 1 ≤ w → w ≤ n → wP b h w = true → P_M_store_90 fz (nI b) (nI w) (u2 h 33 w 0)) {f : Nat} (hf1 : 1 ≤ f) (hf2 : f ≤ n) : ∀ (k fu w s : Nat), 1 ≤ w → w + k = n + 1 → k < fu → s < w → P_M_store_21 fz fu (nI b) (nI kk) (nI f) (nI s) (nI w) h ∧ B_M_store_21 fz fu (nI b) (nI kk) (nI f) (nI s) (nI w) h = match sto (h 31) f kk ((List.range' w k).filter (wP b h)) s with
    | some w => B_M_store_90 fz (nI b) (nI w) (u2 h 33 w 0)
    | none => (0, h) := by
  intro k
  induction k with
  | zero =>
    intro fu w s h1 hk hf hs
    obtain ⟨fu, rfl⟩ : ∃ q, fu = q + 1 := ⟨fu - 1, by omega⟩
    have g : h 27 0 < nI w := by rw [h5]; exact nI_lt (by omega) (by omega)
    simp [P_M_store_21, B_M_store_21, g, sto]
  | succ k ih =>
    intro fu w s h1 hk hf hs
    obtain ⟨fu, rfl⟩ : ∃ q, fu = q + 1 := ⟨fu - 1, by omega⟩
    have g : ¬ h 27 0 < nI w := by rw [h5]; exact nI_nlt (by omega) (by omega)
    have hx : ix (nI w) = w := nI_clamp (by omega)
    have hv : vp_in (nI w) 301 := vp_in_nI (by omega) (by decide)
    have hxf : ix (nI f) = f := nI_clamp (by omega)
    have hvf : vp_in (nI f) 301 := vp_in_nI (by omega) (by decide)
    have hf0 : ¬ nI f = 0 := nI_ne0 (by omega) (by omega)
    have i0 := ih fu (w + 1) s (by omega) (by omega) (by omega) (by omega)
    have i1 := ih fu (w + 1) (s + 1) (by omega) (by omega) (by omega) (by omega)
    have es : nI s = nI kk ↔ s = kk := nI_eq (by omega) hkk
    by_cases c1 : h 33 w = 0
    · have cw : wP b h w = false := by simp [wP, c1]
      rw [List.range'_succ, List.filter_cons_of_neg (by simp [cw])]
      simp only [P_M_store_21, B_M_store_21, g, hx, hv, c1, nI_1, i0, if_true, if_false, not_true_eq_false, not_false_eq_true, true_implies, false_implies, and_true, true_and]
    · by_cases c2 : h 28 w = nI (1 - b)
      · have cw : wP b h w = true := by simp [wP, c1, c2]
        rw [List.range'_succ, List.filter_cons_of_pos (by simp [cw])]
        by_cases c3 : h 31 w = h 31 f
        · by_cases c4 : s = kk
          · have q := hP w h1 (by omega) cw
            simp only [P_M_store_21, B_M_store_21, g, hx, hv, hxf, hvf, hf0, x1m hb, c1, c2, c3, es, c4, q, sto, nI_1, if_true, if_false, not_true_eq_false, not_false_eq_true, true_implies, false_implies, and_true, true_and]
          · simp only [P_M_store_21, B_M_store_21, g, hx, hv, hxf, hvf, hf0, x1m hb, c1, c2, c3, es, c4, i1, sto, nI_1, if_true, if_false, not_true_eq_false, not_false_eq_true, true_implies, false_implies, and_true, true_and]
        · simp only [P_M_store_21, B_M_store_21, g, hx, hv, hxf, hvf, hf0, x1m hb, c1, c2, c3, i0, sto, nI_1, if_true, if_false, not_true_eq_false, not_false_eq_true, true_implies, false_implies, and_true, true_and]
      · have cw : wP b h w = false := by simp [wP, c2]
        rw [List.range'_succ, List.filter_cons_of_neg (by simp [cw])]
        simp only [P_M_store_21, B_M_store_21, g, hx, hv, x1m hb, c1, c2, i0, nI_1, if_true, if_false, not_true_eq_false, not_false_eq_true, true_implies, false_implies, and_true, true_and]
theorem cf_store0 (fz : Nat) {b : Nat} (hb : b < 2) {n kk : Nat} (hn : n ≤ 300) (hkk : kk < 2 ^ 31) (h : HH) (h5 : h 27 0 = nI n) (hP : ∀ w, 1 ≤ w → w ≤ n → wP b h w = true → P_M_store_90 fz (nI b) (nI w) (u2 h 33 w 0)) : ∀ (k fu w : Nat), 1 ≤ w → w + k = n + 1 → k < fu → P_M_store_21 fz fu (nI b) (nI kk) 0 0 (nI w) h ∧ B_M_store_21 fz fu (nI b) (nI kk) 0 0 (nI w) h = match sto0 (h 31) kk ((List.range' w k).filter (wP b h)) with
    | some w => B_M_store_90 fz (nI b) (nI w) (u2 h 33 w 0)
    | none => (0, h) := by
  intro k
  induction k with
  | zero =>
    intro fu w h1 hk hf
    obtain ⟨fu, rfl⟩ : ∃ q, fu = q + 1 := ⟨fu - 1, by omega⟩
    have g : h 27 0 < nI w := by rw [h5]; exact nI_lt (by omega) (by omega)
    simp [P_M_store_21, B_M_store_21, g, sto0]
  | succ k ih =>
    intro fu w h1 hk hf
    obtain ⟨fu, rfl⟩ : ∃ q, fu = q + 1 := ⟨fu - 1, by omega⟩
    have g : ¬ h 27 0 < nI w := by rw [h5]; exact nI_nlt (by omega) (by omega)
    have hx : ix (nI w) = w := nI_clamp (by omega)
    have hv : vp_in (nI w) 301 := vp_in_nI (by omega) (by decide)
    have i0 := ih fu (w + 1) (by omega) (by omega) (by omega)
    have i1 := cf_store1 fz hb hn hkk h h5 hP (f := w) h1 (by omega) k fu (w + 1) 1 (by omega) (by omega) (by omega) (by omega)
    have es : (0 : Int32) = nI kk ↔ 0 = kk := by rw [li0]; exact nI_eq (by omega) hkk
    have e01 : (0 : Int32) + 1 = nI 1 := by decide +kernel
    by_cases c1 : h 33 w = 0
    · have cw : wP b h w = false := by simp [wP, c1]
      rw [List.range'_succ, List.filter_cons_of_neg (by simp [cw])]
      simp only [P_M_store_21, B_M_store_21, g, hx, hv, c1, nI_1, i0, if_true, if_false, not_true_eq_false, not_false_eq_true, true_implies, false_implies, and_true, true_and]
    · by_cases c2 : h 28 w = nI (1 - b)
      · have cw : wP b h w = true := by simp [wP, c1, c2]
        rw [List.range'_succ, List.filter_cons_of_pos (by simp [cw])]
        by_cases c4 : 0 = kk
        · have q := hP w h1 (by omega) cw
          have c5 : (0 = kk) = True := eq_true c4
          simp only [P_M_store_21, B_M_store_21, g, hx, hv, x1m hb, c1, c2, es, c5, q, sto0, sto, if_true, if_false, not_true_eq_false, not_false_eq_true, true_implies, false_implies, and_true, true_and]
        · simp only [P_M_store_21, B_M_store_21, g, hx, hv, x1m hb, c1, c2, es, c4, e01, i1, sto0, sto, nI_1, Nat.zero_add, if_true, if_false, not_true_eq_false, not_false_eq_true, true_implies, false_implies, and_true, true_and]
      · have cw : wP b h w = false := by simp [wP, c2]
        rw [List.range'_succ, List.filter_cons_of_neg (by simp [cw])]
        simp only [P_M_store_21, B_M_store_21, g, hx, hv, x1m hb, c1, c2, i0, nI_1, if_true, if_false, not_true_eq_false, not_false_eq_true, true_implies, false_implies, and_true, true_and]
theorem cf_log23 (fz : Nat) {b e : Nat} (hb : b < 2) (he : e < 8) (x : Int32) (h : HH) : ∀ (k fu f acc : Nat), f + k = 8 → k < fu → P_M_log_23 fz fu (nI b) x (nI e) (nI acc) (nI f) h ∧ (B_M_log_23 fz fu (nI b) x (nI e) (nI acc) (nI f) h).1 = nI (acc + cn (fun i => !decide (h 36 (8 * b + i) = 0) && !decide (h 37 (8 * b + i) ≤ h 37 (8 * b + e))) f k) := by
  intro k
  induction k with
  | zero =>
    intro fu f acc hk hf
    obtain ⟨fu, rfl⟩ : ∃ q, fu = q + 1 := ⟨fu - 1, by omega⟩
    have g : (8 : Int32) ≤ nI f := by rw [li8]; exact nI_le (by omega) (by omega)
    simp [P_M_log_23, B_M_log_23, g, cn]
  | succ k ih =>
    intro fu f acc hk hf
    obtain ⟨fu, rfl⟩ : ∃ q, fu = q + 1 := ⟨fu - 1, by omega⟩
    have g : ¬ (8 : Int32) ≤ nI f := by rw [li8]; exact nI_ge (by omega) (by omega)
    have hx : ix (nI (8 * b + f)) = 8 * b + f := nI_clamp (by omega)
    have hv : vp_in (nI (8 * b + f)) 16 := vp_in_nI (by omega) (by decide)
    have hxe : ix (nI (8 * b + e)) = 8 * b + e := nI_clamp (by omega)
    have hve : vp_in (nI (8 * b + e)) 16 := vp_in_nI (by omega) (by decide)
    have i0 := ih fu (f + 1) acc (by omega) (by omega)
    have i1 := ih fu (f + 1) (acc + 1) (by omega) (by omega)
    by_cases c1 : h 36 (8 * b + f) = 0
    · simp only [P_M_log_23, B_M_log_23, x8, hx, hv, hxe, hve, g, c1, nI_1, i0, cn, if_true, if_false, not_true_eq_false, not_false_eq_true, true_implies, false_implies, and_true, true_and, decide_true, decide_false, Bool.not_true, Bool.not_false, Bool.false_and, Bool.true_and, cond_true, cond_false, Nat.zero_add]
    · by_cases c2 : h 37 (8 * b + f) ≤ h 37 (8 * b + e)
      · simp only [P_M_log_23, B_M_log_23, x8, hx, hv, hxe, hve, g, c1, c2, nI_1, i0, cn, if_true, if_false, not_true_eq_false, not_false_eq_true, true_implies, false_implies, and_true, true_and, decide_true, decide_false, Bool.not_true, Bool.not_false, Bool.false_and, Bool.true_and, cond_true, cond_false, Nat.zero_add]
      · simp only [P_M_log_23, B_M_log_23, x8, hx, hv, hxe, hve, g, c1, c2, nI_1, i1, cn, if_true, if_false, not_true_eq_false, not_false_eq_true, true_implies, false_implies, and_true, true_and, decide_true, decide_false, Bool.not_true, Bool.not_false, Bool.false_and, Bool.true_and, cond_true, cond_false, Nat.add_assoc]
def ltr (b : Nat) (h : HH) (e : Nat) : Nat := cn (fun i => !decide (h 36 (8 * b + i) = 0) && !decide (h 37 (8 * b + i) ≤ h 37 (8 * b + e))) 0 8
theorem cv_log23 (fz : Nat) (hz : 400 ≤ fz) {b e : Nat} (hb : b < 2) (he : e < 8) (x : Int32) (h : HH) : P_M_log_23 fz fz (nI b) x (nI e) 0 0 h ∧ (B_M_log_23 fz fz (nI b) x (nI e) 0 0 h).1 = nI (ltr b h e) := by
  have q := cf_log23 fz hb he x h 8 fz 0 0 (by omega) (by omega)
  rw [Nat.zero_add, ← li0] at q
  exact q
theorem cf_log11 (fz : Nat) (hz : 400 ≤ fz) {b : Nat} (hb : b < 2) (x : Int32) (h : HH) : ∀ (k fu e : Nat), e + k = 8 → k < fu → P_M_log_11 fz fu (nI b) x (nI e) h ∧ B_M_log_11 fz fu (nI b) x (nI e) h = oi (fnd (fun e => !decide (h 36 (8 * b + e) = 0) && decide (nI (ltr b h e) = x)) e k) := by
  intro k
  induction k with
  | zero =>
    intro fu e hk hf
    obtain ⟨fu, rfl⟩ : ∃ q, fu = q + 1 := ⟨fu - 1, by omega⟩
    have g : (8 : Int32) ≤ nI e := by rw [li8]; exact nI_le (by omega) (by omega)
    simp [P_M_log_11, B_M_log_11, g, fnd, oi]
  | succ k ih =>
    intro fu e hk hf
    obtain ⟨fu, rfl⟩ : ∃ q, fu = q + 1 := ⟨fu - 1, by omega⟩
    have g : ¬ (8 : Int32) ≤ nI e := by rw [li8]; exact nI_ge (by omega) (by omega)
    have hx : ix (nI (8 * b + e)) = 8 * b + e := nI_clamp (by omega)
    have hv : vp_in (nI (8 * b + e)) 16 := vp_in_nI (by omega) (by decide)
    have l1 := cv_log23 fz hz hb (show e < 8 by omega) x h
    have i0 := ih fu (e + 1) (by omega) (by omega)
    by_cases c1 : h 36 (8 * b + e) = 0
    · simp [P_M_log_11, B_M_log_11, x8, hx, hv, g, c1, nI_1, l1, i0, fnd]
    · by_cases c2 : nI (ltr b h e) = x
      · simp [P_M_log_11, B_M_log_11, x8, hx, hv, g, c1, c2, l1, fnd, oi]
      · simp [P_M_log_11, B_M_log_11, x8, hx, hv, g, c1, c2, nI_1, l1, i0, fnd]
theorem cv_log (fz : Nat) (hz : 400 ≤ fz) {b : Nat} (hb : b < 2) (x : Int32) (h : HH) : P_M_log_11 fz fz (nI b) x 0 h ∧ B_M_log_11 fz fz (nI b) x 0 h = oi (fnd (fun e => !decide (h 36 (8 * b + e) = 0) && decide (nI (ltr b h e) = x)) 0 8) := by
  have q := cf_log11 fz hz hb x h 8 fz 0 (by omega) (by omega)
  rw [← li0] at q
  exact q
def idl (p : Nat → Bool) (us : Nat → Int32) : Option Nat → Nat → Nat → Option Nat
  | o, _, 0 => o
  | none, e, k + 1 => idl p us (cond (p e) (some e) none) (e + 1) k
  | some a, e, k + 1 => idl p us (cond (p e) (if us a ≤ us e then some a else some e) (some a)) (e + 1) k
def iP (fz b : Nat) (h : HH) : Nat → Bool := fun e => !decide (h 36 (8 * b + e) = 0) && decide (B_M_pending fz (nI b) (nI (4 * e)) (nI (4 * e + 3)) h = 0)
theorem cf_idle (fz : Nat) {b : Nat} (hb : b < 2) (h : HH) (hN : ∀ e, e < 8 → P_M_pending fz (nI b) (nI (4 * e)) (nI (4 * e + 3)) h) : ∀ (k fu e : Nat) (o : Option Nat), e + k = 8 → k < fu → (∀ a, o = some a → a < 8) → P_M_idle_4 fz fu (nI b) (oi o) (nI e) h ∧ B_M_idle_4 fz fu (nI b) (oi o) (nI e) h = oi (idl (iP fz b h) (fun e => h 37 (8 * b + e)) o e k) := by
  intro k
  induction k with
  | zero =>
    intro fu e o hk hf ho
    obtain ⟨fu, rfl⟩ : ∃ q, fu = q + 1 := ⟨fu - 1, by omega⟩
    have g : (8 : Int32) ≤ nI e := by rw [li8]; exact nI_le (by omega) (by omega)
    cases o <;> simp [P_M_idle_4, B_M_idle_4, g, idl]
  | succ k ih =>
    intro fu e o hk hf ho
    obtain ⟨fu, rfl⟩ : ∃ q, fu = q + 1 := ⟨fu - 1, by omega⟩
    have g : ¬ (8 : Int32) ≤ nI e := by rw [li8]; exact nI_ge (by omega) (by omega)
    have hx : ix (nI (8 * b + e)) = 8 * b + e := nI_clamp (by omega)
    have hv : vp_in (nI (8 * b + e)) 16 := vp_in_nI (by omega) (by decide)
    have e4 : (4 : Int32) * nI e = nI (4 * e) := by rw [li4, pk_mul]
    have e43 : nI (4 * e) + (3 : Int32) = nI (4 * e + 3) := by rw [li3, nI_add]
    have hp := hN e (by omega)
    have m1 : (-1 : Int32) < 0 := by decide
    by_cases c1 : h 36 (8 * b + e) = 0
    · have cp : iP fz b h e = false := by simp [iP, c1]
      have i0 := ih fu (e + 1) o (by omega) (by omega) ho
      cases o with
      | none => simp only [P_M_idle_4, B_M_idle_4, x8, hx, hv, g, c1, nI_1, i0, idl, cp, if_true, if_false, not_true_eq_false, not_false_eq_true, true_implies, false_implies, and_true, true_and, decide_true, decide_false, Bool.not_true, Bool.not_false, Bool.false_and, Bool.true_and, cond_true, cond_false]
      | some a => simp only [P_M_idle_4, B_M_idle_4, x8, hx, hv, g, c1, nI_1, i0, idl, cp, if_true, if_false, not_true_eq_false, not_false_eq_true, true_implies, false_implies, and_true, true_and, decide_true, decide_false, Bool.not_true, Bool.not_false, Bool.false_and, Bool.true_and, cond_true, cond_false]
    · by_cases c2 : B_M_pending fz (nI b) (nI (4 * e)) (nI (4 * e + 3)) h = 0
      · have cp : iP fz b h e = true := by simp [iP, c1, c2]
        have i1 := ih fu (e + 1) (some e) (by omega) (by omega) (fun a ha => by cases ha; omega)
        have ie : oi (some e) = nI e := rfl
        rw [ie] at i1
        cases o with
        | none =>
          have io : oi none = -1 := rfl
          simp only [P_M_idle_4, B_M_idle_4, x8, hx, hv, g, c1, c2, e4, e43, hp, m1, io, nI_1, i1, idl, cp, if_true, if_false, not_true_eq_false, not_false_eq_true, true_implies, false_implies, and_true, true_and, decide_true, decide_false, Bool.not_true, Bool.not_false, Bool.false_and, Bool.true_and, cond_true, cond_false]
        | some a =>
          have ha := ho a rfl
          have io : oi (some a) = nI a := rfl
          have hxa : ix (nI (8 * b + a)) = 8 * b + a := nI_clamp (by omega)
          have hva : vp_in (nI (8 * b + a)) 16 := vp_in_nI (by omega) (by decide)
          have ga : ¬ nI a < 0 := nI_pos (by omega)
          have i0 := ih fu (e + 1) (some a) (by omega) (by omega) ho
          rw [io] at i0
          by_cases c3 : h 37 (8 * b + a) ≤ h 37 (8 * b + e)
          · simp only [P_M_idle_4, B_M_idle_4, x8, hx, hv, hxa, hva, ga, g, c1, c2, c3, e4, e43, hp, io, nI_1, i0, idl, cp, if_true, if_false, not_true_eq_false, not_false_eq_true, true_implies, false_implies, and_true, true_and, decide_true, decide_false, Bool.not_true, Bool.not_false, Bool.false_and, Bool.true_and, cond_true, cond_false]
          · simp only [P_M_idle_4, B_M_idle_4, x8, hx, hv, hxa, hva, ga, g, c1, c2, c3, e4, e43, hp, io, nI_1, i1, idl, cp, if_true, if_false, not_true_eq_false, not_false_eq_true, true_implies, false_implies, and_true, true_and, decide_true, decide_false, Bool.not_true, Bool.not_false, Bool.false_and, Bool.true_and, cond_true, cond_false]
      · have cp : iP fz b h e = false := by simp [iP, c2]
        have i0 := ih fu (e + 1) o (by omega) (by omega) ho
        cases o with
        | none => simp only [P_M_idle_4, B_M_idle_4, x8, hx, hv, g, c1, c2, e4, e43, hp, nI_1, i0, idl, cp, if_true, if_false, not_true_eq_false, not_false_eq_true, true_implies, false_implies, and_true, true_and, decide_true, decide_false, Bool.not_true, Bool.not_false, Bool.false_and, Bool.true_and, cond_true, cond_false]
        | some a => simp only [P_M_idle_4, B_M_idle_4, x8, hx, hv, g, c1, c2, e4, e43, hp, nI_1, i0, idl, cp, if_true, if_false, not_true_eq_false, not_false_eq_true, true_implies, false_implies, and_true, true_and, decide_true, decide_false, Bool.not_true, Bool.not_false, Bool.false_and, Bool.true_and, cond_true, cond_false]
theorem cv_idle (fz : Nat) (hz : 400 ≤ fz) {b : Nat} (hb : b < 2) (h : HH) (hN : ∀ e, e < 8 → P_M_pending fz (nI b) (nI (4 * e)) (nI (4 * e + 3)) h) : P_M_idle fz (nI b) h ∧ B_M_idle fz (nI b) h = oi (idl (iP fz b h) (fun e => h 37 (8 * b + e)) none 0 8) := by
  have q := cf_idle fz hb h hN 8 fz 0 none (by omega) (by omega) (fun a ha => by cases ha)
  rw [← li0] at q
  exact q
theorem cf_traffic (fz : Nat) {b : Nat} (hb : b < 2) {n : Nat} (hn : n ≤ 300) (h : HH) (h5 : h 27 0 = nI n) (hU : P_M_underWay fz (nI b) (-1) h) : ∀ (k fu w acc : Nat), w + k = n + 1 → k < fu → P_M_traffic_13 fz fu (nI b) (nI acc) (nI w) h ∧ B_M_traffic_13 fz fu (nI b) (nI acc) (nI w) h = (h 51 b + 100 * nI (acc + cn (wP b h) w k)) + 10000 * B_M_underWay fz (nI b) (-1) h := by
  intro k
  induction k with
  | zero =>
    intro fu w acc hk hf
    obtain ⟨fu, rfl⟩ : ∃ q, fu = q + 1 := ⟨fu - 1, by omega⟩
    have g : h 27 0 < nI w := by rw [h5]; exact nI_lt (by omega) (by omega)
    have hxb : ix (nI b) = b := nI_clamp (by omega)
    have hvb : vp_in (nI b) 2 := vp_in_nI hb (by decide)
    simp [P_M_traffic_13, B_M_traffic_13, g, hxb, hvb, hU, cn]
  | succ k ih =>
    intro fu w acc hk hf
    obtain ⟨fu, rfl⟩ : ∃ q, fu = q + 1 := ⟨fu - 1, by omega⟩
    have g : ¬ h 27 0 < nI w := by rw [h5]; exact nI_nlt (by omega) (by omega)
    have hx : ix (nI w) = w := nI_clamp (by omega)
    have hv : vp_in (nI w) 301 := vp_in_nI (by omega) (by decide)
    have i0 := ih fu (w + 1) acc (by omega) (by omega)
    have i1 := ih fu (w + 1) (acc + 1) (by omega) (by omega)
    by_cases c1 : h 33 w = 0
    · have cw : wP b h w = false := by simp [wP, c1]
      simp only [P_M_traffic_13, B_M_traffic_13, g, hx, hv, c1, nI_1, i0, cn, cw, Nat.zero_add, if_true, if_false, not_true_eq_false, not_false_eq_true, true_implies, false_implies, and_true, true_and, decide_true, decide_false, Bool.not_true, Bool.not_false, Bool.false_and, Bool.true_and, cond_true, cond_false]
    · by_cases c2 : h 28 w = nI (1 - b)
      · have cw : wP b h w = true := by simp [wP, c1, c2]
        simp only [P_M_traffic_13, B_M_traffic_13, g, hx, hv, x1m hb, c1, c2, nI_1, i1, cn, cw, Nat.add_assoc, if_true, if_false, not_true_eq_false, not_false_eq_true, true_implies, false_implies, and_true, true_and, decide_true, decide_false, Bool.not_true, Bool.not_false, Bool.false_and, Bool.true_and, cond_true, cond_false]
      · have cw : wP b h w = false := by simp [wP, c2]
        simp only [P_M_traffic_13, B_M_traffic_13, g, hx, hv, x1m hb, c1, c2, nI_1, i0, cn, cw, Nat.zero_add, if_true, if_false, not_true_eq_false, not_false_eq_true, true_implies, false_implies, and_true, true_and, decide_true, decide_false, Bool.not_true, Bool.not_false, Bool.false_and, Bool.true_and, cond_true, cond_false]
theorem cv_map (fz : Nat) (hz : 400 ≤ fz) {b : Nat} (hb : b < 2) (h : HH) : P_M_map_13 fz fz (nI b) 0 0 h ∧ ∀ i, i < 32 → (bt (B_M_map_13 fz fz (nI b) 0 0 h) i = true ↔ bt 0 i = true ∨ (0 ≤ i ∧ ¬ h 35 (32 * b + i) = 0)) := by
  have q := cf_map fz hb h 32 fz 0 0 (by omega) (by omega)
  rw [← li0] at q
  exact q
theorem cv_finish (fz : Nat) (hz : 400 ≤ fz) {b : Nat} (hb : b < 2) (x : Int32) (h : HH) : P_M_arrive_139 fz fz (nI b) x 0 h ∧ B_M_arrive_139 fz fz (nI b) x 0 h = u2 (u2 (rs 35 (32 * b + 0) (32 * b + 32) (fun _ => 0) h) 38 b x) 39 b 0 := by
  have q := cf_finish fz hb x 32 fz 0 h (by omega) (by omega)
  rw [← li0] at q
  exact q
theorem cv_discard (fz : Nat) (hz : 400 ≤ fz) {b : Nat} (hb : b < 2) (h : HH) (hp : P_M_turnInto fz (nI b) 3 4 (rs 35 (32 * b + 0) (32 * b + 32) (fun _ => 0) h)) : P_M_discard_75 fz fz (nI b) 0 h ∧ B_M_discard_75 fz fz (nI b) 0 h = (1, B_M_turnInto fz (nI b) 3 4 (rs 35 (32 * b + 0) (32 * b + 32) (fun _ => 0) h)) := by
  have q := cf_discard fz hb 32 fz 0 h (by omega) (by omega) hp
  rw [← li0] at q
  exact q
theorem cv_restart (fz : Nat) (hz : 400 ≤ fz) {b : Nat} (hb : b < 2) (h : HH) : P_M_restart_27 fz fz (nI b) 0 h ∧ B_M_restart_27 fz fz (nI b) 0 h = (1, rs 35 (32 * b + 0) (32 * b + 32) (fun i => if ¬ h 41 b = 0 ∧ ¬ h 36 (8 * b + (i - 32 * b) / 4) = 0 then 1 else h 35 i) h) := by
  have q := cf_restart fz hb h 32 fz 0 h (by omega) (by omega) (fun _ => rfl) (fun _ => rfl) (fun _ _ => rfl)
  rw [← li0] at q
  exact q
theorem cv_connect (fz : Nat) (hz : 400 ≤ fz) {s t : Nat} (hs : s < 2) (ht : t < 2) (hst : s ≠ t) (x : Int32) (h : HH) (hp : P_M_connect_232 fz (nI s) (u2 (u2 (u2 (rs 35 (32 * s + 0) (32 * s + 32) (fun i => bi (!(decide (x = 0) && decide (h 35 i = 0) && decide (h 35 (32 * t + (i - 32 * s)) = 0)))) h) 44 s 1) 45 t 1) 40 t 1)) : P_M_connect_147 fz fz (nI s) (nI t) x 0 h ∧ B_M_connect_147 fz fz (nI s) (nI t) x 0 h = B_M_connect_232 fz (nI s) (u2 (u2 (u2 (rs 35 (32 * s + 0) (32 * s + 32) (fun i => bi (!(decide (x = 0) && decide (h 35 i = 0) && decide (h 35 (32 * t + (i - 32 * s)) = 0)))) h) 44 s 1) 45 t 1) 40 t 1) := by
  have q := cf_connect fz hs ht hst x h 32 fz 0 h (by omega) (by omega) (fun _ _ => rfl) (fun _ _ _ => rfl) hp
  rw [← li0] at q
  exact q
theorem cv_store (fz : Nat) (hz : 400 ≤ fz) {b : Nat} (hb : b < 2) {n kk : Nat} (hn : n ≤ 300) (hkk : kk < 2 ^ 31) (h : HH) (h5 : h 27 0 = nI n) (hP : ∀ w, 1 ≤ w → w ≤ n → wP b h w = true → P_M_store_90 fz (nI b) (nI w) (u2 h 33 w 0)) : P_M_store_21 fz fz (nI b) (nI kk) 0 0 1 h ∧ B_M_store_21 fz fz (nI b) (nI kk) 0 0 1 h = match sto0 (h 31) kk ((List.range' 1 n).filter (wP b h)) with
    | some w => B_M_store_90 fz (nI b) (nI w) (u2 h 33 w 0)
    | none => (0, h) := by
  have q := cf_store0 fz hb hn hkk h h5 hP n fz 1 (by omega) (by omega) (by omega)
  rw [← li1] at q
  exact q
theorem cv_traffic (fz : Nat) (hz : 400 ≤ fz) {b : Nat} (hb : b < 2) {n : Nat} (hn : n ≤ 300) (h : HH) (h5 : h 27 0 = nI n) (hU : P_M_underWay fz (nI b) (-1) h) : P_M_traffic_13 fz fz (nI b) 0 1 h ∧ B_M_traffic_13 fz fz (nI b) 0 1 h = (h 51 b + 100 * nI (cn (wP b h) 1 n)) + 10000 * B_M_underWay fz (nI b) (-1) h := by
  have q := cf_traffic fz hb hn h h5 hU n fz 1 0 (by omega) (by omega)
  rw [Nat.zero_add, ← li0, ← li1] at q
  exact q
theorem cv_copy (fz : Nat) (hz : 400 ≤ fz) {b : Nat} (hb : b < 2) (h : HH) (U N : Nat → Nat) (hU : ∀ j, j < 32 → P_M_underWay fz (nI b) (nI j) h ∧ B_M_underWay fz (nI b) (nI j) h = nI (U j) ∧ U j < 1000) (hN : ∀ j, j < 32 → P_M_pending fz (nI b) (nI j) (nI j) h ∧ B_M_pending fz (nI b) (nI j) (nI j) h = nI (N j) ∧ N j < 1000) (hS : ∀ j, j < 32 → P_M_send fz (nI b) 3 (nI j) (h 34 (32 * b + j)) h) : P_M_copy_30 fz fz (nI b) 0 h ∧ B_M_copy_30 fz fz (nI b) 0 h = match fnd (fun j => !decide (h 35 (32 * b + j) = 0) && decide (U j = 0) && decide (N j = 0)) 0 32 with
    | some j => (nI j, B_M_send fz (nI b) 3 (nI j) (h 34 (32 * b + j)) h)
    | none => (-1, h) := by
  have q := cf_copy fz hb h U N hU hN hS 32 fz 0 (by omega) (by omega)
  rw [← li0] at q
  exact q
end
section
abbrev MSG : Type := Nat × Nat × Int32
def sbj (a : MSG) : Int32 := if a.1 = 5 then a.2.2 else nI a.2.1
def vlu (a : MSG) : Int32 := if a.1 = 3 then a.2.2 else 0
def GL (lk gr a b c d : Int32) : Prop := a = lk ∧ b = gr ∧ c = lk ∧ d = gr
def GT (n : Nat) (own blk ep ft : Nat → Nat) (a5 : Int32) (v22 v23 v24 v25 v26 : Nat → Int32) (b0 b11 : Int32) (m28 m29 m30 m31 m32 : Nat → Int32) : Prop := a5 = nI n ∧ b0 = nI n ∧ b11 = nI n ∧ m31 0 = 0 ∧ ∀ w, 1 ≤ w → w ≤ n → (v22 w = nI (own w) ∧ v23 w = nI (blk w) ∧ v24 w = m30 w ∧ v25 w = nI (ep w) ∧ v26 w = nI (ft w)) ∧ (m28 w = nI (own w) ∧ m29 w = nI (blk w) ∧ m31 w = nI (ep w) ∧ m32 w = nI (ft w))
def GS (b : Nat) (sc : HH) (r0 r6 r7 r8 r9 r10 r11 r12 r13 a6 a7 a8 a9 a10 a11 a12 a13 : Int32) : Prop := r0 = nI b ∧ r6 = sc 6 b ∧ r7 = sc 7 b ∧ r8 = sc 8 b ∧ r9 = sc 9 b ∧ r10 = sc 10 b ∧ r11 = sc 11 b ∧ r12 = sc 12 b ∧ r13 = sc 13 b ∧ a6 = sc 6 b ∧ a7 = sc 7 b ∧ a8 = sc 8 b ∧ a9 = sc 9 b ∧ a10 = sc 10 b ∧ a11 = sc 11 b ∧ a12 = sc 12 b ∧ a13 = sc 13 b
def GM (b : Nat) (f : Nat → Bool) (x : Int32) (a : Nat → Int32) : Prop := ∀ j, j < 32 → bt x j = f j ∧ a (32 * b + j) = bi (f j)
def GD (b : Nat) (r a : Nat → Int32) : Prop := ∀ j, j < 32 → r j = a (32 * b + j)
def GR (l : List MSG) (x3 x4 : Int32) (r5 r6 r7 : Nat → Int32) : Prop := ∃ f, f < 25 ∧ l.length ≤ 25 ∧ x3 = nI f ∧ x4 = nI l.length ∧ ∀ k a, l[k]? = some a → r5 ((f + k) % 25) = nI a.1 ∧ r6 ((f + k) % 25) = sbj a ∧ r7 ((f + k) % 25) = vlu a
def GA (b : Nat) (l : List MSG) (c : Int32) (a48 a49 a50 : Nat → Int32) : Prop := c = nI l.length ∧ ∀ k a, l[k]? = some a → a48 (64 * b + k) = nI a.1 ∧ a49 (64 * b + k) = sbj a ∧ a50 (64 * b + k) = vlu a
def GW (l : List Nat) (x : Int32) (r : Nat → Int32) : Prop := l.length ≤ 8 ∧ x = nI l.length ∧ ∀ k w, l[k]? = some w → r k = nI w
def GX (f : Nat → Bool) (a : Nat → Int32) : Prop := ∀ w, 1 ≤ w → w ≤ 300 → a w = bi (f w)
def GG (b n : Nat) (l : List Nat) (us : Nat → Nat) (x : Int32) (r a36 a37 : Nat → Int32) : Prop := l.length ≤ 3 ∧ x = nI l.length ∧ (∀ k e, l[k]? = some e → r k = nI e) ∧ (∀ e, e < 8 → a36 (8 * b + e) = bi (decide (e ∈ l)) ∧ a37 (8 * b + e) = nI (us e)) ∧ (∀ e, e ∈ l → e < 8 ∧ us e ≤ n) ∧ l.Pairwise (fun e e' => us e' < us e)
def GU (f : Nat → Bool) (x : Int32) : Prop := ∀ j, j < 32 → bt x j = f j
def GE (n p : Nat) (x15 x16 : Int32) (m31 : Nat → Int32) (y47 y46 : Int32) : Prop := p ≤ n ∧ x15 = m31 p ∧ y47 = nI p ∧ (x16 = 0 ↔ (p ≠ 0 ∧ y46 = 0))
def Rel (n : Nat) (own blk ep ft : Nat → Nat) (sc : HH) (lk gr : Int32) (mp un : Nat → Nat → Bool) (q : Nat → List MSG) (wt : Nat → List Nat) (wx : Nat → Bool) (lg : Nat → List Nat) (us : Nat → Nat → Nat) (pv : Nat → Nat) (v m : HH) : Prop :=
  GL lk gr (v 0 3) (v 0 4) (m 27 23) (m 27 14) ∧
  GT n own blk ep ft (v 21 5) (v 22) (v 23) (v 24) (v 25) (v 26) (m 27 0) (m 27 11) (m 28) (m 29) (m 30) (m 31) (m 32) ∧
  GX wx (m 33) ∧
  GS 0 sc (v 1 0) (v 1 6) (v 1 7) (v 1 8) (v 1 9) (v 1 10) (v 1 11) (v 1 12) (v 1 13) (m 38 0) (m 39 0) (m 40 0) (m 41 0) (m 42 0) (m 43 0) (m 44 0) (m 45 0) ∧
  GM 0 (mp 0) (v 1 5) (m 35) ∧
  GD 0 (v 2) (m 34) ∧
  GR (q 0) (v 5 3) (v 5 4) (v 6) (v 7) (v 8) ∧
  GA 0 (q 0) (m 51 0) (m 48) (m 49) (m 50) ∧
  GW (wt 0) (v 9 1) (v 10) ∧
  GG 0 n (lg 0) (us 0) (v 3 1) (v 4) (m 36) (m 37) ∧
  GU (un 0) (v 1 14) ∧
  GE n (pv 0) (v 1 15) (v 1 16) (m 31) (m 47 0) (m 46 0) ∧
  GS 1 sc (v 11 0) (v 11 6) (v 11 7) (v 11 8) (v 11 9) (v 11 10) (v 11 11) (v 11 12) (v 11 13) (m 38 1) (m 39 1) (m 40 1) (m 41 1) (m 42 1) (m 43 1) (m 44 1) (m 45 1) ∧
  GM 1 (mp 1) (v 11 5) (m 35) ∧
  GD 1 (v 12) (m 34) ∧
  GR (q 1) (v 15 3) (v 15 4) (v 16) (v 17) (v 18) ∧
  GA 1 (q 1) (m 51 1) (m 48) (m 49) (m 50) ∧
  GW (wt 1) (v 19 1) (v 20) ∧
  GG 1 n (lg 1) (us 1) (v 13 1) (v 14) (m 36) (m 37) ∧
  GU (un 1) (v 11 14) ∧
  GE n (pv 1) (v 11 15) (v 11 16) (m 31) (m 47 1) (m 46 1)
theorem r_set_6_0 {n : Nat} {own blk ep ft : Nat → Nat} {sc : HH} {lk gr : Int32} {mp un : Nat → Nat → Bool} {q : Nat → List MSG} {wt : Nat → List Nat} {wx : Nat → Bool} {lg : Nat → List Nat} {us : Nat → Nat → Nat} {pv : Nat → Nat} {v m : HH} (hR : Rel n own blk ep ft sc lk gr mp un q wt wx lg us pv (v) (m)) (x : Int32) : Rel n own blk ep ft (u2 sc 6 0 x) lk gr mp un q wt wx lg us pv (u2 v 1 6 x) (u2 m 38 0 x) := by
  obtain ⟨hL, hT, hX, hS0, hM0, hD0, hR0, hA0, hW0, hG0, hU0, hE0, hS1, hM1, hD1, hR1, hA1, hW1, hG1, hU1, hE1⟩ := hR
  obtain ⟨a0, a1, a2, a3, a4, a5, a6, a7, a8, a9, a10, a11, a12, a13, a14, a15, a16⟩ := hS0
  exact ⟨hL, hT, hX, ⟨a0, rfl, a2, a3, a4, a5, a6, a7, a8, rfl, a10, a11, a12, a13, a14, a15, a16⟩, hM0, hD0, hR0, hA0, hW0, hG0, hU0, hE0, hS1, hM1, hD1, hR1, hA1, hW1, hG1, hU1, hE1⟩
theorem r_set_7_0 {n : Nat} {own blk ep ft : Nat → Nat} {sc : HH} {lk gr : Int32} {mp un : Nat → Nat → Bool} {q : Nat → List MSG} {wt : Nat → List Nat} {wx : Nat → Bool} {lg : Nat → List Nat} {us : Nat → Nat → Nat} {pv : Nat → Nat} {v m : HH} (hR : Rel n own blk ep ft sc lk gr mp un q wt wx lg us pv (v) (m)) (x : Int32) : Rel n own blk ep ft (u2 sc 7 0 x) lk gr mp un q wt wx lg us pv (u2 v 1 7 x) (u2 m 39 0 x) := by
  obtain ⟨hL, hT, hX, hS0, hM0, hD0, hR0, hA0, hW0, hG0, hU0, hE0, hS1, hM1, hD1, hR1, hA1, hW1, hG1, hU1, hE1⟩ := hR
  obtain ⟨a0, a1, a2, a3, a4, a5, a6, a7, a8, a9, a10, a11, a12, a13, a14, a15, a16⟩ := hS0
  exact ⟨hL, hT, hX, ⟨a0, a1, rfl, a3, a4, a5, a6, a7, a8, a9, rfl, a11, a12, a13, a14, a15, a16⟩, hM0, hD0, hR0, hA0, hW0, hG0, hU0, hE0, hS1, hM1, hD1, hR1, hA1, hW1, hG1, hU1, hE1⟩
theorem r_set_8_0 {n : Nat} {own blk ep ft : Nat → Nat} {sc : HH} {lk gr : Int32} {mp un : Nat → Nat → Bool} {q : Nat → List MSG} {wt : Nat → List Nat} {wx : Nat → Bool} {lg : Nat → List Nat} {us : Nat → Nat → Nat} {pv : Nat → Nat} {v m : HH} (hR : Rel n own blk ep ft sc lk gr mp un q wt wx lg us pv (v) (m)) (x : Int32) : Rel n own blk ep ft (u2 sc 8 0 x) lk gr mp un q wt wx lg us pv (u2 v 1 8 x) (u2 m 40 0 x) := by
  obtain ⟨hL, hT, hX, hS0, hM0, hD0, hR0, hA0, hW0, hG0, hU0, hE0, hS1, hM1, hD1, hR1, hA1, hW1, hG1, hU1, hE1⟩ := hR
  obtain ⟨a0, a1, a2, a3, a4, a5, a6, a7, a8, a9, a10, a11, a12, a13, a14, a15, a16⟩ := hS0
  exact ⟨hL, hT, hX, ⟨a0, a1, a2, rfl, a4, a5, a6, a7, a8, a9, a10, rfl, a12, a13, a14, a15, a16⟩, hM0, hD0, hR0, hA0, hW0, hG0, hU0, hE0, hS1, hM1, hD1, hR1, hA1, hW1, hG1, hU1, hE1⟩
theorem r_set_9_0 {n : Nat} {own blk ep ft : Nat → Nat} {sc : HH} {lk gr : Int32} {mp un : Nat → Nat → Bool} {q : Nat → List MSG} {wt : Nat → List Nat} {wx : Nat → Bool} {lg : Nat → List Nat} {us : Nat → Nat → Nat} {pv : Nat → Nat} {v m : HH} (hR : Rel n own blk ep ft sc lk gr mp un q wt wx lg us pv (v) (m)) (x : Int32) : Rel n own blk ep ft (u2 sc 9 0 x) lk gr mp un q wt wx lg us pv (u2 v 1 9 x) (u2 m 41 0 x) := by
  obtain ⟨hL, hT, hX, hS0, hM0, hD0, hR0, hA0, hW0, hG0, hU0, hE0, hS1, hM1, hD1, hR1, hA1, hW1, hG1, hU1, hE1⟩ := hR
  obtain ⟨a0, a1, a2, a3, a4, a5, a6, a7, a8, a9, a10, a11, a12, a13, a14, a15, a16⟩ := hS0
  exact ⟨hL, hT, hX, ⟨a0, a1, a2, a3, rfl, a5, a6, a7, a8, a9, a10, a11, rfl, a13, a14, a15, a16⟩, hM0, hD0, hR0, hA0, hW0, hG0, hU0, hE0, hS1, hM1, hD1, hR1, hA1, hW1, hG1, hU1, hE1⟩
theorem r_set_10_0 {n : Nat} {own blk ep ft : Nat → Nat} {sc : HH} {lk gr : Int32} {mp un : Nat → Nat → Bool} {q : Nat → List MSG} {wt : Nat → List Nat} {wx : Nat → Bool} {lg : Nat → List Nat} {us : Nat → Nat → Nat} {pv : Nat → Nat} {v m : HH} (hR : Rel n own blk ep ft sc lk gr mp un q wt wx lg us pv (v) (m)) (x : Int32) : Rel n own blk ep ft (u2 sc 10 0 x) lk gr mp un q wt wx lg us pv (u2 v 1 10 x) (u2 m 42 0 x) := by
  obtain ⟨hL, hT, hX, hS0, hM0, hD0, hR0, hA0, hW0, hG0, hU0, hE0, hS1, hM1, hD1, hR1, hA1, hW1, hG1, hU1, hE1⟩ := hR
  obtain ⟨a0, a1, a2, a3, a4, a5, a6, a7, a8, a9, a10, a11, a12, a13, a14, a15, a16⟩ := hS0
  exact ⟨hL, hT, hX, ⟨a0, a1, a2, a3, a4, rfl, a6, a7, a8, a9, a10, a11, a12, rfl, a14, a15, a16⟩, hM0, hD0, hR0, hA0, hW0, hG0, hU0, hE0, hS1, hM1, hD1, hR1, hA1, hW1, hG1, hU1, hE1⟩
theorem r_set_11_0 {n : Nat} {own blk ep ft : Nat → Nat} {sc : HH} {lk gr : Int32} {mp un : Nat → Nat → Bool} {q : Nat → List MSG} {wt : Nat → List Nat} {wx : Nat → Bool} {lg : Nat → List Nat} {us : Nat → Nat → Nat} {pv : Nat → Nat} {v m : HH} (hR : Rel n own blk ep ft sc lk gr mp un q wt wx lg us pv (v) (m)) (x : Int32) : Rel n own blk ep ft (u2 sc 11 0 x) lk gr mp un q wt wx lg us pv (u2 v 1 11 x) (u2 m 43 0 x) := by
  obtain ⟨hL, hT, hX, hS0, hM0, hD0, hR0, hA0, hW0, hG0, hU0, hE0, hS1, hM1, hD1, hR1, hA1, hW1, hG1, hU1, hE1⟩ := hR
  obtain ⟨a0, a1, a2, a3, a4, a5, a6, a7, a8, a9, a10, a11, a12, a13, a14, a15, a16⟩ := hS0
  exact ⟨hL, hT, hX, ⟨a0, a1, a2, a3, a4, a5, rfl, a7, a8, a9, a10, a11, a12, a13, rfl, a15, a16⟩, hM0, hD0, hR0, hA0, hW0, hG0, hU0, hE0, hS1, hM1, hD1, hR1, hA1, hW1, hG1, hU1, hE1⟩
theorem r_set_12_0 {n : Nat} {own blk ep ft : Nat → Nat} {sc : HH} {lk gr : Int32} {mp un : Nat → Nat → Bool} {q : Nat → List MSG} {wt : Nat → List Nat} {wx : Nat → Bool} {lg : Nat → List Nat} {us : Nat → Nat → Nat} {pv : Nat → Nat} {v m : HH} (hR : Rel n own blk ep ft sc lk gr mp un q wt wx lg us pv (v) (m)) (x : Int32) : Rel n own blk ep ft (u2 sc 12 0 x) lk gr mp un q wt wx lg us pv (u2 v 1 12 x) (u2 m 44 0 x) := by
  obtain ⟨hL, hT, hX, hS0, hM0, hD0, hR0, hA0, hW0, hG0, hU0, hE0, hS1, hM1, hD1, hR1, hA1, hW1, hG1, hU1, hE1⟩ := hR
  obtain ⟨a0, a1, a2, a3, a4, a5, a6, a7, a8, a9, a10, a11, a12, a13, a14, a15, a16⟩ := hS0
  exact ⟨hL, hT, hX, ⟨a0, a1, a2, a3, a4, a5, a6, rfl, a8, a9, a10, a11, a12, a13, a14, rfl, a16⟩, hM0, hD0, hR0, hA0, hW0, hG0, hU0, hE0, hS1, hM1, hD1, hR1, hA1, hW1, hG1, hU1, hE1⟩
theorem r_set_13_0 {n : Nat} {own blk ep ft : Nat → Nat} {sc : HH} {lk gr : Int32} {mp un : Nat → Nat → Bool} {q : Nat → List MSG} {wt : Nat → List Nat} {wx : Nat → Bool} {lg : Nat → List Nat} {us : Nat → Nat → Nat} {pv : Nat → Nat} {v m : HH} (hR : Rel n own blk ep ft sc lk gr mp un q wt wx lg us pv (v) (m)) (x : Int32) : Rel n own blk ep ft (u2 sc 13 0 x) lk gr mp un q wt wx lg us pv (u2 v 1 13 x) (u2 m 45 0 x) := by
  obtain ⟨hL, hT, hX, hS0, hM0, hD0, hR0, hA0, hW0, hG0, hU0, hE0, hS1, hM1, hD1, hR1, hA1, hW1, hG1, hU1, hE1⟩ := hR
  obtain ⟨a0, a1, a2, a3, a4, a5, a6, a7, a8, a9, a10, a11, a12, a13, a14, a15, a16⟩ := hS0
  exact ⟨hL, hT, hX, ⟨a0, a1, a2, a3, a4, a5, a6, a7, rfl, a9, a10, a11, a12, a13, a14, a15, rfl⟩, hM0, hD0, hR0, hA0, hW0, hG0, hU0, hE0, hS1, hM1, hD1, hR1, hA1, hW1, hG1, hU1, hE1⟩
theorem r_set_6_1 {n : Nat} {own blk ep ft : Nat → Nat} {sc : HH} {lk gr : Int32} {mp un : Nat → Nat → Bool} {q : Nat → List MSG} {wt : Nat → List Nat} {wx : Nat → Bool} {lg : Nat → List Nat} {us : Nat → Nat → Nat} {pv : Nat → Nat} {v m : HH} (hR : Rel n own blk ep ft sc lk gr mp un q wt wx lg us pv (v) (m)) (x : Int32) : Rel n own blk ep ft (u2 sc 6 1 x) lk gr mp un q wt wx lg us pv (u2 v 11 6 x) (u2 m 38 1 x) := by
  obtain ⟨hL, hT, hX, hS0, hM0, hD0, hR0, hA0, hW0, hG0, hU0, hE0, hS1, hM1, hD1, hR1, hA1, hW1, hG1, hU1, hE1⟩ := hR
  obtain ⟨a0, a1, a2, a3, a4, a5, a6, a7, a8, a9, a10, a11, a12, a13, a14, a15, a16⟩ := hS1
  exact ⟨hL, hT, hX, hS0, hM0, hD0, hR0, hA0, hW0, hG0, hU0, hE0, ⟨a0, rfl, a2, a3, a4, a5, a6, a7, a8, rfl, a10, a11, a12, a13, a14, a15, a16⟩, hM1, hD1, hR1, hA1, hW1, hG1, hU1, hE1⟩
theorem r_set_7_1 {n : Nat} {own blk ep ft : Nat → Nat} {sc : HH} {lk gr : Int32} {mp un : Nat → Nat → Bool} {q : Nat → List MSG} {wt : Nat → List Nat} {wx : Nat → Bool} {lg : Nat → List Nat} {us : Nat → Nat → Nat} {pv : Nat → Nat} {v m : HH} (hR : Rel n own blk ep ft sc lk gr mp un q wt wx lg us pv (v) (m)) (x : Int32) : Rel n own blk ep ft (u2 sc 7 1 x) lk gr mp un q wt wx lg us pv (u2 v 11 7 x) (u2 m 39 1 x) := by
  obtain ⟨hL, hT, hX, hS0, hM0, hD0, hR0, hA0, hW0, hG0, hU0, hE0, hS1, hM1, hD1, hR1, hA1, hW1, hG1, hU1, hE1⟩ := hR
  obtain ⟨a0, a1, a2, a3, a4, a5, a6, a7, a8, a9, a10, a11, a12, a13, a14, a15, a16⟩ := hS1
  exact ⟨hL, hT, hX, hS0, hM0, hD0, hR0, hA0, hW0, hG0, hU0, hE0, ⟨a0, a1, rfl, a3, a4, a5, a6, a7, a8, a9, rfl, a11, a12, a13, a14, a15, a16⟩, hM1, hD1, hR1, hA1, hW1, hG1, hU1, hE1⟩
theorem r_set_8_1 {n : Nat} {own blk ep ft : Nat → Nat} {sc : HH} {lk gr : Int32} {mp un : Nat → Nat → Bool} {q : Nat → List MSG} {wt : Nat → List Nat} {wx : Nat → Bool} {lg : Nat → List Nat} {us : Nat → Nat → Nat} {pv : Nat → Nat} {v m : HH} (hR : Rel n own blk ep ft sc lk gr mp un q wt wx lg us pv (v) (m)) (x : Int32) : Rel n own blk ep ft (u2 sc 8 1 x) lk gr mp un q wt wx lg us pv (u2 v 11 8 x) (u2 m 40 1 x) := by
  obtain ⟨hL, hT, hX, hS0, hM0, hD0, hR0, hA0, hW0, hG0, hU0, hE0, hS1, hM1, hD1, hR1, hA1, hW1, hG1, hU1, hE1⟩ := hR
  obtain ⟨a0, a1, a2, a3, a4, a5, a6, a7, a8, a9, a10, a11, a12, a13, a14, a15, a16⟩ := hS1
  exact ⟨hL, hT, hX, hS0, hM0, hD0, hR0, hA0, hW0, hG0, hU0, hE0, ⟨a0, a1, a2, rfl, a4, a5, a6, a7, a8, a9, a10, rfl, a12, a13, a14, a15, a16⟩, hM1, hD1, hR1, hA1, hW1, hG1, hU1, hE1⟩
theorem r_set_9_1 {n : Nat} {own blk ep ft : Nat → Nat} {sc : HH} {lk gr : Int32} {mp un : Nat → Nat → Bool} {q : Nat → List MSG} {wt : Nat → List Nat} {wx : Nat → Bool} {lg : Nat → List Nat} {us : Nat → Nat → Nat} {pv : Nat → Nat} {v m : HH} (hR : Rel n own blk ep ft sc lk gr mp un q wt wx lg us pv (v) (m)) (x : Int32) : Rel n own blk ep ft (u2 sc 9 1 x) lk gr mp un q wt wx lg us pv (u2 v 11 9 x) (u2 m 41 1 x) := by
  obtain ⟨hL, hT, hX, hS0, hM0, hD0, hR0, hA0, hW0, hG0, hU0, hE0, hS1, hM1, hD1, hR1, hA1, hW1, hG1, hU1, hE1⟩ := hR
  obtain ⟨a0, a1, a2, a3, a4, a5, a6, a7, a8, a9, a10, a11, a12, a13, a14, a15, a16⟩ := hS1
  exact ⟨hL, hT, hX, hS0, hM0, hD0, hR0, hA0, hW0, hG0, hU0, hE0, ⟨a0, a1, a2, a3, rfl, a5, a6, a7, a8, a9, a10, a11, rfl, a13, a14, a15, a16⟩, hM1, hD1, hR1, hA1, hW1, hG1, hU1, hE1⟩
theorem r_set_10_1 {n : Nat} {own blk ep ft : Nat → Nat} {sc : HH} {lk gr : Int32} {mp un : Nat → Nat → Bool} {q : Nat → List MSG} {wt : Nat → List Nat} {wx : Nat → Bool} {lg : Nat → List Nat} {us : Nat → Nat → Nat} {pv : Nat → Nat} {v m : HH} (hR : Rel n own blk ep ft sc lk gr mp un q wt wx lg us pv (v) (m)) (x : Int32) : Rel n own blk ep ft (u2 sc 10 1 x) lk gr mp un q wt wx lg us pv (u2 v 11 10 x) (u2 m 42 1 x) := by
  obtain ⟨hL, hT, hX, hS0, hM0, hD0, hR0, hA0, hW0, hG0, hU0, hE0, hS1, hM1, hD1, hR1, hA1, hW1, hG1, hU1, hE1⟩ := hR
  obtain ⟨a0, a1, a2, a3, a4, a5, a6, a7, a8, a9, a10, a11, a12, a13, a14, a15, a16⟩ := hS1
  exact ⟨hL, hT, hX, hS0, hM0, hD0, hR0, hA0, hW0, hG0, hU0, hE0, ⟨a0, a1, a2, a3, a4, rfl, a6, a7, a8, a9, a10, a11, a12, rfl, a14, a15, a16⟩, hM1, hD1, hR1, hA1, hW1, hG1, hU1, hE1⟩
theorem r_set_11_1 {n : Nat} {own blk ep ft : Nat → Nat} {sc : HH} {lk gr : Int32} {mp un : Nat → Nat → Bool} {q : Nat → List MSG} {wt : Nat → List Nat} {wx : Nat → Bool} {lg : Nat → List Nat} {us : Nat → Nat → Nat} {pv : Nat → Nat} {v m : HH} (hR : Rel n own blk ep ft sc lk gr mp un q wt wx lg us pv (v) (m)) (x : Int32) : Rel n own blk ep ft (u2 sc 11 1 x) lk gr mp un q wt wx lg us pv (u2 v 11 11 x) (u2 m 43 1 x) := by
  obtain ⟨hL, hT, hX, hS0, hM0, hD0, hR0, hA0, hW0, hG0, hU0, hE0, hS1, hM1, hD1, hR1, hA1, hW1, hG1, hU1, hE1⟩ := hR
  obtain ⟨a0, a1, a2, a3, a4, a5, a6, a7, a8, a9, a10, a11, a12, a13, a14, a15, a16⟩ := hS1
  exact ⟨hL, hT, hX, hS0, hM0, hD0, hR0, hA0, hW0, hG0, hU0, hE0, ⟨a0, a1, a2, a3, a4, a5, rfl, a7, a8, a9, a10, a11, a12, a13, rfl, a15, a16⟩, hM1, hD1, hR1, hA1, hW1, hG1, hU1, hE1⟩
theorem r_set_12_1 {n : Nat} {own blk ep ft : Nat → Nat} {sc : HH} {lk gr : Int32} {mp un : Nat → Nat → Bool} {q : Nat → List MSG} {wt : Nat → List Nat} {wx : Nat → Bool} {lg : Nat → List Nat} {us : Nat → Nat → Nat} {pv : Nat → Nat} {v m : HH} (hR : Rel n own blk ep ft sc lk gr mp un q wt wx lg us pv (v) (m)) (x : Int32) : Rel n own blk ep ft (u2 sc 12 1 x) lk gr mp un q wt wx lg us pv (u2 v 11 12 x) (u2 m 44 1 x) := by
  obtain ⟨hL, hT, hX, hS0, hM0, hD0, hR0, hA0, hW0, hG0, hU0, hE0, hS1, hM1, hD1, hR1, hA1, hW1, hG1, hU1, hE1⟩ := hR
  obtain ⟨a0, a1, a2, a3, a4, a5, a6, a7, a8, a9, a10, a11, a12, a13, a14, a15, a16⟩ := hS1
  exact ⟨hL, hT, hX, hS0, hM0, hD0, hR0, hA0, hW0, hG0, hU0, hE0, ⟨a0, a1, a2, a3, a4, a5, a6, rfl, a8, a9, a10, a11, a12, a13, a14, rfl, a16⟩, hM1, hD1, hR1, hA1, hW1, hG1, hU1, hE1⟩
theorem r_set_13_1 {n : Nat} {own blk ep ft : Nat → Nat} {sc : HH} {lk gr : Int32} {mp un : Nat → Nat → Bool} {q : Nat → List MSG} {wt : Nat → List Nat} {wx : Nat → Bool} {lg : Nat → List Nat} {us : Nat → Nat → Nat} {pv : Nat → Nat} {v m : HH} (hR : Rel n own blk ep ft sc lk gr mp un q wt wx lg us pv (v) (m)) (x : Int32) : Rel n own blk ep ft (u2 sc 13 1 x) lk gr mp un q wt wx lg us pv (u2 v 11 13 x) (u2 m 45 1 x) := by
  obtain ⟨hL, hT, hX, hS0, hM0, hD0, hR0, hA0, hW0, hG0, hU0, hE0, hS1, hM1, hD1, hR1, hA1, hW1, hG1, hU1, hE1⟩ := hR
  obtain ⟨a0, a1, a2, a3, a4, a5, a6, a7, a8, a9, a10, a11, a12, a13, a14, a15, a16⟩ := hS1
  exact ⟨hL, hT, hX, hS0, hM0, hD0, hR0, hA0, hW0, hG0, hU0, hE0, ⟨a0, a1, a2, a3, a4, a5, a6, a7, rfl, a9, a10, a11, a12, a13, a14, a15, rfl⟩, hM1, hD1, hR1, hA1, hW1, hG1, hU1, hE1⟩
theorem r_lk {n : Nat} {own blk ep ft : Nat → Nat} {sc : HH} {lk gr : Int32} {mp un : Nat → Nat → Bool} {q : Nat → List MSG} {wt : Nat → List Nat} {wx : Nat → Bool} {lg : Nat → List Nat} {us : Nat → Nat → Nat} {pv : Nat → Nat} {v m : HH} (hR : Rel n own blk ep ft sc lk gr mp un q wt wx lg us pv (v) (m)) (x : Int32) : Rel n own blk ep ft sc (x) gr mp un q wt wx lg us pv (u2 v 0 3 x) (u2 m 27 23 x) := by
  obtain ⟨hL, hT, hX, hS0, hM0, hD0, hR0, hA0, hW0, hG0, hU0, hE0, hS1, hM1, hD1, hR1, hA1, hW1, hG1, hU1, hE1⟩ := hR
  obtain ⟨a1, a2, a3, a4⟩ := hL
  exact ⟨⟨rfl, a2, rfl, a4⟩, hT, hX, hS0, hM0, hD0, hR0, hA0, hW0, hG0, hU0, hE0, hS1, hM1, hD1, hR1, hA1, hW1, hG1, hU1, hE1⟩
theorem r_gr {n : Nat} {own blk ep ft : Nat → Nat} {sc : HH} {lk gr : Int32} {mp un : Nat → Nat → Bool} {q : Nat → List MSG} {wt : Nat → List Nat} {wx : Nat → Bool} {lg : Nat → List Nat} {us : Nat → Nat → Nat} {pv : Nat → Nat} {v m : HH} (hR : Rel n own blk ep ft sc lk gr mp un q wt wx lg us pv (v) (m)) (x : Int32) : Rel n own blk ep ft sc lk (x) mp un q wt wx lg us pv (u2 v 0 4 x) (u2 m 27 14 x) := by
  obtain ⟨hL, hT, hX, hS0, hM0, hD0, hR0, hA0, hW0, hG0, hU0, hE0, hS1, hM1, hD1, hR1, hA1, hW1, hG1, hU1, hE1⟩ := hR
  obtain ⟨a1, a2, a3, a4⟩ := hL
  exact ⟨⟨a1, rfl, a3, rfl⟩, hT, hX, hS0, hM0, hD0, hR0, hA0, hW0, hG0, hU0, hE0, hS1, hM1, hD1, hR1, hA1, hW1, hG1, hU1, hE1⟩
theorem r_ft {n : Nat} {own blk ep ft : Nat → Nat} {sc : HH} {lk gr : Int32} {mp un : Nat → Nat → Bool} {q : Nat → List MSG} {wt : Nat → List Nat} {wx : Nat → Bool} {lg : Nat → List Nat} {us : Nat → Nat → Nat} {pv : Nat → Nat} {v m : HH} (hR : Rel n own blk ep ft sc lk gr mp un q wt wx lg us pv (v) (m)) {w : Nat} (h1 : 1 ≤ w) (h2 : w ≤ n) {x : Int32} (y : Nat) (hx : x = nI y) : Rel n own blk ep (ug ft w y) sc lk gr mp un q wt wx lg us pv (u2 v 26 w x) (u2 m 32 w x) := by
  obtain ⟨hL, hT, hX, hS0, hM0, hD0, hR0, hA0, hW0, hG0, hU0, hE0, hS1, hM1, hD1, hR1, hA1, hW1, hG1, hU1, hE1⟩ := hR
  obtain ⟨a1, a2, a3, a4, a5⟩ := hT
  refine ⟨hL, ⟨a1, a2, a3, a4, ?_⟩, hX, hS0, hM0, hD0, hR0, hA0, hW0, hG0, hU0, hE0, hS1, hM1, hD1, hR1, hA1, hW1, hG1, hU1, hE1⟩
  intro w' g1 g2
  obtain ⟨⟨e1, e2, e3, e4, e5⟩, f1, f2, f3, f4⟩ := a5 w' g1 g2
  by_cases hw : w' = w
  · subst hw
    have e : ug ft w' y w' = y := if_pos rfl
    refine ⟨⟨e1, e2, e3, e4, ?_⟩, f1, f2, f3, ?_⟩
    · rw [e, u2_s]; exact hx
    · rw [e, u2_s]; exact hx
  · have e : ug ft w y w' = ft w' := if_neg hw
    refine ⟨⟨e1, e2, e3, e4, ?_⟩, f1, f2, f3, ?_⟩
    · rw [e, u2_k v x 26 hw]; exact e5
    · rw [e, u2_k m x 32 hw]; exact f4
def cft (own ft : Nat → Nat) (b a y n : Nat) : Nat → Nat := fun w => if (1 ≤ w ∧ w ≤ n) ∧ own w = b ∧ ft w = a then y else ft w
theorem r_chft {n : Nat} {own blk ep ft : Nat → Nat} {sc : HH} {lk gr : Int32} {mp un : Nat → Nat → Bool} {q : Nat → List MSG} {wt : Nat → List Nat} {wx : Nat → Bool} {lg : Nat → List Nat} {us : Nat → Nat → Nat} {pv : Nat → Nat} {v m : HH} (fz : Nat) (hz : 400 ≤ fz) (hn : n ≤ 300) (ho : ∀ w, 1 ≤ w → w ≤ n → own w < 2 ∧ ft w < 5) (hR : Rel n own blk ep ft sc lk gr mp un q wt wx lg us pv (v) (m)) {b a y : Nat} (hb : b < 2) (ha : a < 5) {xb xb2 xa xy : Int32} (eb : xb = nI b) (eb2 : xb2 = nI b) (ea : xa = nI a) (ey : xy = nI y) : P_T_changeFates fz xb xa xy v ∧ P_M_turnInto fz xb2 xa xy m ∧ Rel n own blk ep (cft own ft b a y n) sc lk gr mp un q wt wx lg us pv (B_T_changeFates fz xb xa xy v) (B_M_turnInto fz xb2 xa xy m) := by
  subst eb
  subst eb2
  subst ea
  subst ey
  obtain ⟨hL, hT, hX, hS0, hM0, hD0, hR0, hA0, hW0, hG0, hU0, hE0, hS1, hM1, hD1, hR1, hA1, hW1, hG1, hU1, hE1⟩ := hR
  obtain ⟨a1, a2, a3, a4, a5⟩ := hT
  have c1 := cv_changeFates fz hz (nI b) (nI a) (nI y) hn v a1
  have c2 := cv_turnInto fz hz (nI b) (nI a) (nI y) hn m a2
  refine ⟨c1.1, c2.1, ?_⟩
  rw [c1.2, c2.2]
  refine ⟨hL, ⟨a1, a2, a3, a4, ?_⟩, hX, hS0, hM0, hD0, hR0, hA0, hW0, hG0, hU0, hE0, hS1, hM1, hD1, hR1, hA1, hW1, hG1, hU1, hE1⟩
  intro w g1 g2
  obtain ⟨⟨e1, e2, e3, e4, e5⟩, f1, f2, f3, f4⟩ := a5 w g1 g2
  obtain ⟨o1, o2⟩ := ho w g1 g2
  have k1 : nI (own w) = nI b ↔ own w = b := nI_eq (by omega) (by omega)
  have k2 : nI (ft w) = nI a ↔ ft w = a := nI_eq (by omega) (by omega)
  refine ⟨⟨e1, e2, e3, e4, ?_⟩, f1, f2, f3, ?_⟩
  · unfold chF cft
    by_cases hc : own w = b ∧ ft w = a
    · rw [if_pos ⟨rfl, ⟨g1, g2⟩, by rw [e1]; exact k1.mpr hc.1, by rw [e5]; exact k2.mpr hc.2⟩, if_pos ⟨⟨g1, g2⟩, hc⟩]
    · rw [if_neg (fun r => hc ⟨k1.mp (e1.symm.trans r.2.2.1), k2.mp (e5.symm.trans r.2.2.2)⟩), if_neg (fun r => hc r.2)]
      exact e5
  · unfold chF cft
    by_cases hc : own w = b ∧ ft w = a
    · rw [if_pos ⟨rfl, ⟨g1, g2⟩, by rw [f1]; exact k1.mpr hc.1, by rw [f4]; exact k2.mpr hc.2⟩, if_pos ⟨⟨g1, g2⟩, hc⟩]
    · rw [if_neg (fun r => hc ⟨k1.mp (f1.symm.trans r.2.2.1), k2.mp (f4.symm.trans r.2.2.2)⟩), if_neg (fun r => hc r.2)]
      exact f4
theorem r_mapclr_0 {n : Nat} {own blk ep ft : Nat → Nat} {sc : HH} {lk gr : Int32} {mp un : Nat → Nat → Bool} {q : Nat → List MSG} {wt : Nat → List Nat} {wx : Nat → Bool} {lg : Nat → List Nat} {us : Nat → Nat → Nat} {pv : Nat → Nat} {v m : HH} (hR : Rel n own blk ep ft sc lk gr mp un q wt wx lg us pv (v) (m)) {j : Nat} (hj : j < 32) : Rel n own blk ep ft sc lk gr (ug mp 0 (fun k => mp 0 k && !decide (k = j))) un q wt wx lg us pv (u2 v 1 5 (v 1 5 &&& (((1 : Int32) <<< (nI j &&& 31)) ^^^ (-1 : Int32)))) (u2 m 35 (32 * 0 + j) 0) := by
  obtain ⟨hL, hT, hX, hS0, hM0, hD0, hR0, hA0, hW0, hG0, hU0, hE0, hS1, hM1, hD1, hR1, hA1, hW1, hG1, hU1, hE1⟩ := hR
  refine ⟨hL, hT, hX, hS0, ?_, hD0, hR0, hA0, hW0, hG0, hU0, hE0, hS1, ?_, hD1, hR1, hA1, hW1, hG1, hU1, hE1⟩
  · intro k hk
    have g := hM0 k hk
    refine ⟨(bt_clr (v 1 5) hj hk).trans (by rw [g.1]; rfl), ?_⟩
    by_cases e : k = j
    · subst e
      rw [u2_s]
      have e2 : ug mp 0 (fun k' => mp 0 k' && !decide (k' = k)) 0 k = false := by simp [ug]
      rw [e2]
      rfl
    · rw [u2_k m 0 35 (show 32 * 0 + k ≠ 32 * 0 + j by omega), g.2]
      have e2 : ug mp 0 (fun k => mp 0 k && !decide (k = j)) 0 k = mp 0 k := by simp [ug, e]
      rw [e2]
  · intro k hk
    have g := hM1 k hk
    refine ⟨g.1, ?_⟩
    rw [u2_k m 0 35 (show 32 * 1 + k ≠ 32 * 0 + j by omega)]
    exact g.2
theorem r_mapset_0 {n : Nat} {own blk ep ft : Nat → Nat} {sc : HH} {lk gr : Int32} {mp un : Nat → Nat → Bool} {q : Nat → List MSG} {wt : Nat → List Nat} {wx : Nat → Bool} {lg : Nat → List Nat} {us : Nat → Nat → Nat} {pv : Nat → Nat} {v m : HH} (hR : Rel n own blk ep ft sc lk gr mp un q wt wx lg us pv (v) (m)) {j : Nat} (hj : j < 32) : Rel n own blk ep ft sc lk gr (ug mp 0 (fun k => mp 0 k || decide (k = j))) un q wt wx lg us pv (u2 v 1 5 (v 1 5 ||| ((1 : Int32) <<< (nI j &&& 31)))) (u2 m 35 (32 * 0 + j) 1) := by
  obtain ⟨hL, hT, hX, hS0, hM0, hD0, hR0, hA0, hW0, hG0, hU0, hE0, hS1, hM1, hD1, hR1, hA1, hW1, hG1, hU1, hE1⟩ := hR
  refine ⟨hL, hT, hX, hS0, ?_, hD0, hR0, hA0, hW0, hG0, hU0, hE0, hS1, ?_, hD1, hR1, hA1, hW1, hG1, hU1, hE1⟩
  · intro k hk
    have g := hM0 k hk
    refine ⟨(bt_set (v 1 5) hj hk).trans (by rw [g.1]; rfl), ?_⟩
    by_cases e : k = j
    · subst e
      rw [u2_s]
      have e2 : ug mp 0 (fun k' => mp 0 k' || decide (k' = k)) 0 k = true := by simp [ug]
      rw [e2]
      rfl
    · rw [u2_k m 1 35 (show 32 * 0 + k ≠ 32 * 0 + j by omega), g.2]
      have e2 : ug mp 0 (fun k => mp 0 k || decide (k = j)) 0 k = mp 0 k := by simp [ug, e]
      rw [e2]
  · intro k hk
    have g := hM1 k hk
    refine ⟨g.1, ?_⟩
    rw [u2_k m 1 35 (show 32 * 1 + k ≠ 32 * 0 + j by omega)]
    exact g.2
theorem r_mapall_0 {n : Nat} {own blk ep ft : Nat → Nat} {sc : HH} {lk gr : Int32} {mp un : Nat → Nat → Bool} {q : Nat → List MSG} {wt : Nat → List Nat} {wx : Nat → Bool} {lg : Nat → List Nat} {us : Nat → Nat → Nat} {pv : Nat → Nat} {v m : HH} (hR : Rel n own blk ep ft sc lk gr mp un q wt wx lg us pv (v) (m)) {X : Int32} {f : Nat → Int32} (hf : ∀ j, j < 32 → f (32 * 0 + j) = bi (bt X j)) : Rel n own blk ep ft sc lk gr (ug mp 0 (bt X)) un q wt wx lg us pv (u2 v 1 5 X) (rs 35 (32 * 0 + 0) (32 * 0 + 32) f m) := by
  obtain ⟨hL, hT, hX, hS0, hM0, hD0, hR0, hA0, hW0, hG0, hU0, hE0, hS1, hM1, hD1, hR1, hA1, hW1, hG1, hU1, hE1⟩ := hR
  refine ⟨hL, hT, hX, hS0, ?_, hD0, hR0, hA0, hW0, hG0, hU0, hE0, hS1, ?_, hD1, hR1, hA1, hW1, hG1, hU1, hE1⟩
  · intro k hk
    refine ⟨rfl, ?_⟩
    have e : rs 35 (32 * 0 + 0) (32 * 0 + 32) f m 35 (32 * 0 + k) = f (32 * 0 + k) := if_pos ⟨rfl, by omega, by omega⟩
    rw [e]
    exact hf k hk
  · intro k hk
    have g := hM1 k hk
    have e : rs 35 (32 * 0 + 0) (32 * 0 + 32) f m 35 (32 * 1 + k) = m 35 (32 * 1 + k) := if_neg (fun r => by omega)
    refine ⟨g.1, ?_⟩
    rw [e]
    exact g.2
theorem r_disk_0 {n : Nat} {own blk ep ft : Nat → Nat} {sc : HH} {lk gr : Int32} {mp un : Nat → Nat → Bool} {q : Nat → List MSG} {wt : Nat → List Nat} {wx : Nat → Bool} {lg : Nat → List Nat} {us : Nat → Nat → Nat} {pv : Nat → Nat} {v m : HH} (hR : Rel n own blk ep ft sc lk gr mp un q wt wx lg us pv (v) (m)) {j : Nat} (hj : j < 32) (x : Int32) : Rel n own blk ep ft sc lk gr mp un q wt wx lg us pv (u2 v 2 j x) (u2 m 34 (32 * 0 + j) x) := by
  obtain ⟨hL, hT, hX, hS0, hM0, hD0, hR0, hA0, hW0, hG0, hU0, hE0, hS1, hM1, hD1, hR1, hA1, hW1, hG1, hU1, hE1⟩ := hR
  refine ⟨hL, hT, hX, hS0, hM0, ?_, hR0, hA0, hW0, hG0, hU0, hE0, hS1, hM1, ?_, hR1, hA1, hW1, hG1, hU1, hE1⟩
  · intro k hk
    by_cases e : k = j
    · subst e
      rw [u2_s, u2_s]
    · rw [u2_k v x 2 e, u2_k m x 34 (show 32 * 0 + k ≠ 32 * 0 + j by omega)]
      exact hD0 k hk
  · intro k hk
    rw [u2_k m x 34 (show 32 * 1 + k ≠ 32 * 0 + j by omega)]
    exact hD1 k hk
theorem r_un_0 {n : Nat} {own blk ep ft : Nat → Nat} {sc : HH} {lk gr : Int32} {mp un : Nat → Nat → Bool} {q : Nat → List MSG} {wt : Nat → List Nat} {wx : Nat → Bool} {lg : Nat → List Nat} {us : Nat → Nat → Nat} {pv : Nat → Nat} {v m : HH} (hR : Rel n own blk ep ft sc lk gr mp un q wt wx lg us pv (v) (m)) (X : Int32) : Rel n own blk ep ft sc lk gr mp (ug un 0 (bt X)) q wt wx lg us pv (u2 v 1 14 X) (m) := by
  obtain ⟨hL, hT, hX, hS0, hM0, hD0, hR0, hA0, hW0, hG0, hU0, hE0, hS1, hM1, hD1, hR1, hA1, hW1, hG1, hU1, hE1⟩ := hR
  exact ⟨hL, hT, hX, hS0, hM0, hD0, hR0, hA0, hW0, hG0, fun j hj => rfl, hE0, hS1, hM1, hD1, hR1, hA1, hW1, hG1, hU1, hE1⟩
theorem r_bar_0 {n : Nat} {own blk ep ft : Nat → Nat} {sc : HH} {lk gr : Int32} {mp un : Nat → Nat → Bool} {q : Nat → List MSG} {wt : Nat → List Nat} {wx : Nat → Bool} {lg : Nat → List Nat} {us : Nat → Nat → Nat} {pv : Nat → Nat} {v m : HH} (hR : Rel n own blk ep ft sc lk gr mp un q wt wx lg us pv (v) (m)) : Rel n own blk ep ft sc lk gr mp un q wt wx lg us pv (u2 v 1 16 1) (u2 m 46 0 1) := by
  obtain ⟨hL, hT, hX, hS0, hM0, hD0, hR0, hA0, hW0, hG0, hU0, hE0, hS1, hM1, hD1, hR1, hA1, hW1, hG1, hU1, hE1⟩ := hR
  obtain ⟨a1, a2, a3, a4⟩ := hE0
  have e10 : ¬ (1 : Int32) = 0 := by decide
  refine ⟨hL, hT, hX, hS0, hM0, hD0, hR0, hA0, hW0, hG0, hU0, ⟨a1, a2, a3, ?_⟩, hS1, hM1, hD1, hR1, hA1, hW1, hG1, hU1, hE1⟩
  exact ⟨fun r => absurd r e10, fun r => absurd r.2 e10⟩
theorem r_mapclr_1 {n : Nat} {own blk ep ft : Nat → Nat} {sc : HH} {lk gr : Int32} {mp un : Nat → Nat → Bool} {q : Nat → List MSG} {wt : Nat → List Nat} {wx : Nat → Bool} {lg : Nat → List Nat} {us : Nat → Nat → Nat} {pv : Nat → Nat} {v m : HH} (hR : Rel n own blk ep ft sc lk gr mp un q wt wx lg us pv (v) (m)) {j : Nat} (hj : j < 32) : Rel n own blk ep ft sc lk gr (ug mp 1 (fun k => mp 1 k && !decide (k = j))) un q wt wx lg us pv (u2 v 11 5 (v 11 5 &&& (((1 : Int32) <<< (nI j &&& 31)) ^^^ (-1 : Int32)))) (u2 m 35 (32 * 1 + j) 0) := by
  obtain ⟨hL, hT, hX, hS0, hM0, hD0, hR0, hA0, hW0, hG0, hU0, hE0, hS1, hM1, hD1, hR1, hA1, hW1, hG1, hU1, hE1⟩ := hR
  refine ⟨hL, hT, hX, hS0, ?_, hD0, hR0, hA0, hW0, hG0, hU0, hE0, hS1, ?_, hD1, hR1, hA1, hW1, hG1, hU1, hE1⟩
  · intro k hk
    have g := hM0 k hk
    refine ⟨g.1, ?_⟩
    rw [u2_k m 0 35 (show 32 * 0 + k ≠ 32 * 1 + j by omega)]
    exact g.2
  · intro k hk
    have g := hM1 k hk
    refine ⟨(bt_clr (v 11 5) hj hk).trans (by rw [g.1]; rfl), ?_⟩
    by_cases e : k = j
    · subst e
      rw [u2_s]
      have e2 : ug mp 1 (fun k' => mp 1 k' && !decide (k' = k)) 1 k = false := by simp [ug]
      rw [e2]
      rfl
    · rw [u2_k m 0 35 (show 32 * 1 + k ≠ 32 * 1 + j by omega), g.2]
      have e2 : ug mp 1 (fun k => mp 1 k && !decide (k = j)) 1 k = mp 1 k := by simp [ug, e]
      rw [e2]
theorem r_mapset_1 {n : Nat} {own blk ep ft : Nat → Nat} {sc : HH} {lk gr : Int32} {mp un : Nat → Nat → Bool} {q : Nat → List MSG} {wt : Nat → List Nat} {wx : Nat → Bool} {lg : Nat → List Nat} {us : Nat → Nat → Nat} {pv : Nat → Nat} {v m : HH} (hR : Rel n own blk ep ft sc lk gr mp un q wt wx lg us pv (v) (m)) {j : Nat} (hj : j < 32) : Rel n own blk ep ft sc lk gr (ug mp 1 (fun k => mp 1 k || decide (k = j))) un q wt wx lg us pv (u2 v 11 5 (v 11 5 ||| ((1 : Int32) <<< (nI j &&& 31)))) (u2 m 35 (32 * 1 + j) 1) := by
  obtain ⟨hL, hT, hX, hS0, hM0, hD0, hR0, hA0, hW0, hG0, hU0, hE0, hS1, hM1, hD1, hR1, hA1, hW1, hG1, hU1, hE1⟩ := hR
  refine ⟨hL, hT, hX, hS0, ?_, hD0, hR0, hA0, hW0, hG0, hU0, hE0, hS1, ?_, hD1, hR1, hA1, hW1, hG1, hU1, hE1⟩
  · intro k hk
    have g := hM0 k hk
    refine ⟨g.1, ?_⟩
    rw [u2_k m 1 35 (show 32 * 0 + k ≠ 32 * 1 + j by omega)]
    exact g.2
  · intro k hk
    have g := hM1 k hk
    refine ⟨(bt_set (v 11 5) hj hk).trans (by rw [g.1]; rfl), ?_⟩
    by_cases e : k = j
    · subst e
      rw [u2_s]
      have e2 : ug mp 1 (fun k' => mp 1 k' || decide (k' = k)) 1 k = true := by simp [ug]
      rw [e2]
      rfl
    · rw [u2_k m 1 35 (show 32 * 1 + k ≠ 32 * 1 + j by omega), g.2]
      have e2 : ug mp 1 (fun k => mp 1 k || decide (k = j)) 1 k = mp 1 k := by simp [ug, e]
      rw [e2]
theorem r_mapall_1 {n : Nat} {own blk ep ft : Nat → Nat} {sc : HH} {lk gr : Int32} {mp un : Nat → Nat → Bool} {q : Nat → List MSG} {wt : Nat → List Nat} {wx : Nat → Bool} {lg : Nat → List Nat} {us : Nat → Nat → Nat} {pv : Nat → Nat} {v m : HH} (hR : Rel n own blk ep ft sc lk gr mp un q wt wx lg us pv (v) (m)) {X : Int32} {f : Nat → Int32} (hf : ∀ j, j < 32 → f (32 * 1 + j) = bi (bt X j)) : Rel n own blk ep ft sc lk gr (ug mp 1 (bt X)) un q wt wx lg us pv (u2 v 11 5 X) (rs 35 (32 * 1 + 0) (32 * 1 + 32) f m) := by
  obtain ⟨hL, hT, hX, hS0, hM0, hD0, hR0, hA0, hW0, hG0, hU0, hE0, hS1, hM1, hD1, hR1, hA1, hW1, hG1, hU1, hE1⟩ := hR
  refine ⟨hL, hT, hX, hS0, ?_, hD0, hR0, hA0, hW0, hG0, hU0, hE0, hS1, ?_, hD1, hR1, hA1, hW1, hG1, hU1, hE1⟩
  · intro k hk
    have g := hM0 k hk
    have e : rs 35 (32 * 1 + 0) (32 * 1 + 32) f m 35 (32 * 0 + k) = m 35 (32 * 0 + k) := if_neg (fun r => by omega)
    refine ⟨g.1, ?_⟩
    rw [e]
    exact g.2
  · intro k hk
    refine ⟨rfl, ?_⟩
    have e : rs 35 (32 * 1 + 0) (32 * 1 + 32) f m 35 (32 * 1 + k) = f (32 * 1 + k) := if_pos ⟨rfl, by omega, by omega⟩
    rw [e]
    exact hf k hk
theorem r_disk_1 {n : Nat} {own blk ep ft : Nat → Nat} {sc : HH} {lk gr : Int32} {mp un : Nat → Nat → Bool} {q : Nat → List MSG} {wt : Nat → List Nat} {wx : Nat → Bool} {lg : Nat → List Nat} {us : Nat → Nat → Nat} {pv : Nat → Nat} {v m : HH} (hR : Rel n own blk ep ft sc lk gr mp un q wt wx lg us pv (v) (m)) {j : Nat} (hj : j < 32) (x : Int32) : Rel n own blk ep ft sc lk gr mp un q wt wx lg us pv (u2 v 12 j x) (u2 m 34 (32 * 1 + j) x) := by
  obtain ⟨hL, hT, hX, hS0, hM0, hD0, hR0, hA0, hW0, hG0, hU0, hE0, hS1, hM1, hD1, hR1, hA1, hW1, hG1, hU1, hE1⟩ := hR
  refine ⟨hL, hT, hX, hS0, hM0, ?_, hR0, hA0, hW0, hG0, hU0, hE0, hS1, hM1, ?_, hR1, hA1, hW1, hG1, hU1, hE1⟩
  · intro k hk
    rw [u2_k m x 34 (show 32 * 0 + k ≠ 32 * 1 + j by omega)]
    exact hD0 k hk
  · intro k hk
    by_cases e : k = j
    · subst e
      rw [u2_s, u2_s]
    · rw [u2_k v x 12 e, u2_k m x 34 (show 32 * 1 + k ≠ 32 * 1 + j by omega)]
      exact hD1 k hk
theorem r_un_1 {n : Nat} {own blk ep ft : Nat → Nat} {sc : HH} {lk gr : Int32} {mp un : Nat → Nat → Bool} {q : Nat → List MSG} {wt : Nat → List Nat} {wx : Nat → Bool} {lg : Nat → List Nat} {us : Nat → Nat → Nat} {pv : Nat → Nat} {v m : HH} (hR : Rel n own blk ep ft sc lk gr mp un q wt wx lg us pv (v) (m)) (X : Int32) : Rel n own blk ep ft sc lk gr mp (ug un 1 (bt X)) q wt wx lg us pv (u2 v 11 14 X) (m) := by
  obtain ⟨hL, hT, hX, hS0, hM0, hD0, hR0, hA0, hW0, hG0, hU0, hE0, hS1, hM1, hD1, hR1, hA1, hW1, hG1, hU1, hE1⟩ := hR
  exact ⟨hL, hT, hX, hS0, hM0, hD0, hR0, hA0, hW0, hG0, hU0, hE0, hS1, hM1, hD1, hR1, hA1, hW1, hG1, fun j hj => rfl, hE1⟩
theorem r_bar_1 {n : Nat} {own blk ep ft : Nat → Nat} {sc : HH} {lk gr : Int32} {mp un : Nat → Nat → Bool} {q : Nat → List MSG} {wt : Nat → List Nat} {wx : Nat → Bool} {lg : Nat → List Nat} {us : Nat → Nat → Nat} {pv : Nat → Nat} {v m : HH} (hR : Rel n own blk ep ft sc lk gr mp un q wt wx lg us pv (v) (m)) : Rel n own blk ep ft sc lk gr mp un q wt wx lg us pv (u2 v 11 16 1) (u2 m 46 1 1) := by
  obtain ⟨hL, hT, hX, hS0, hM0, hD0, hR0, hA0, hW0, hG0, hU0, hE0, hS1, hM1, hD1, hR1, hA1, hW1, hG1, hU1, hE1⟩ := hR
  obtain ⟨a1, a2, a3, a4⟩ := hE1
  have e10 : ¬ (1 : Int32) = 0 := by decide
  refine ⟨hL, hT, hX, hS0, hM0, hD0, hR0, hA0, hW0, hG0, hU0, hE0, hS1, hM1, hD1, hR1, hA1, hW1, hG1, hU1, ⟨a1, a2, a3, ?_⟩⟩
  exact ⟨fun r => absurd r e10, fun r => absurd r.2 e10⟩
end
section
theorem cv_send (fz i : Nat) (k s x : Int32) (v : HH) {f c : Nat} (hf : f < 25) (hc : c < 25) (h3 : v (i + 4) 3 = nI f) (h4 : v (i + 4) 4 = nI c) : P_O_send fz i k s x v ∧ B_O_send fz i k s x v = u2 (u2 (u2 (u2 v (i + 5) ((f + c) % 25) k) (i + 6) ((f + c) % 25) s) (i + 7) ((f + c) % 25) x) (i + 4) 4 (nI (c + 1)) := by
  have g : v (i + 4) 4 < (25 : Int32) := by rw [h4, li25]; exact nI_lt hc (by omega)
  have e : (v (i + 4) 3 + v (i + 4) 4) - (v (i + 4) 3 + v (i + 4) 4) / (25 : Int32) * (25 : Int32) = nI ((f + c) % 25) := by
    rw [h3, h4, nI_add, li25]
    exact pk_rem (by omega) (by decide) (by decide)
  have hx : ix (nI ((f + c) % 25)) = (f + c) % 25 := nI_clamp (by omega)
  have hv : vp_in (nI ((f + c) % 25)) 25 := vp_in_nI (Nat.mod_lt _ (by decide)) (by decide)
  have e4 : (u2 (u2 (u2 v (i + 5) ((f + c) % 25) k) (i + 6) ((f + c) % 25) s) (i + 7) ((f + c) % 25) x) (i + 4) 4 = nI c := by
    rw [u2_i _ _ _ (by omega), u2_i _ _ _ (by omega), u2_i _ _ _ (by omega)]
    exact h4
  simp only [P_O_send, B_O_send, P_O_send_48, B_O_send_48, e, hx, hv, g, e4, nI_1, if_true, not_true_eq_false, true_implies, false_implies, and_true, true_and]
theorem cv_msend (fz : Nat) {b : Nat} (hb : b < 2) (k s x : Int32) (m : HH) {c : Nat} (hc : c < 25) (h5 : m 51 b = nI c) : P_M_send fz (nI b) k s x m ∧ B_M_send fz (nI b) k s x m = u2 (u2 (u2 (u2 m 48 (64 * b + c) k) 49 (64 * b + c) s) 50 (64 * b + c) x) 51 b (nI (c + 1)) := by
  have hxb : ix (nI b) = b := nI_clamp (by omega)
  have hvb : vp_in (nI b) 2 := vp_in_nI hb (by decide)
  have hx : ix (nI (64 * b + c)) = 64 * b + c := nI_clamp (by omega)
  have hv : vp_in (nI (64 * b + c)) 128 := vp_in_nI (by omega) (by decide)
  have e5 : (u2 (u2 (u2 m 48 (64 * b + c) k) 49 (64 * b + c) s) 50 (64 * b + c) x) 51 b = nI c := h5
  simp only [P_M_send, B_M_send, P_M_send_38, B_M_send_38, hxb, hvb, h5, x64, hx, hv, e5, nI_1, and_true, true_and, and_self]
theorem cv_drop (fz i : Nat) (v : HH) {f c : Nat} (hf : f < 25) (hc : c < 25) (h3 : v (i + 4) 3 = nI f) (h4 : v (i + 4) 4 = nI (c + 1)) : P_O_dropFirst fz i v ∧ B_O_dropFirst fz i v = u2 (u2 v (i + 4) 3 (nI ((f + 1) % 25))) (i + 4) 4 (nI c) := by
  have g : ¬ v (i + 4) 4 ≤ 0 := by rw [h4]; exact nI_nle (by omega) (by omega)
  have e : (v (i + 4) 3 + (1 : Int32)) - (v (i + 4) 3 + (1 : Int32)) / (25 : Int32) * (25 : Int32) = nI ((f + 1) % 25) := by
    rw [h3, nI_1, li25]
    exact pk_rem (by omega) (by decide) (by decide)
  have e4 : (u2 v (i + 4) 3 (nI ((f + 1) % 25))) (i + 4) 4 = nI (c + 1) := by
    rw [u2_k _ _ _ (by decide)]
    exact h4
  simp only [P_O_dropFirst, B_O_dropFirst, P_O_dropFirst_20, B_O_dropFirst_20, e, g, e4, nI_pred, if_false, not_false_eq_true, true_implies, false_implies, and_true, true_and]
theorem cv_add (fz i : Nat) (x : Int32) (v : HH) {c : Nat} (hc : c < 8) (h4 : v (i + 8) 1 = nI c) : P_L_add fz i x v ∧ B_L_add fz i x v = u2 (u2 v (i + 9) c x) (i + 8) 1 (nI (c + 1)) := by
  have g : ¬ (8 : Int32) ≤ v (i + 8) 1 := by rw [h4, li8]; exact nI_ge hc (by omega)
  have hx : ix (nI c) = c := nI_clamp (by omega)
  have hv : vp_in (nI c) 8 := vp_in_nI hc (by decide)
  have e4 : (u2 v (i + 9) c x) (i + 8) 1 = nI c := by
    rw [u2_i _ _ _ (by omega)]
    exact h4
  have g2 : ¬ (8 : Int32) ≤ nI c := by rw [li8]; exact nI_ge hc (by omega)
  simp only [P_L_add, B_L_add, P_L_add_19, B_L_add_19, h4, g2, hx, hv, e4, nI_1, if_false, not_false_eq_true, true_implies, false_implies, and_true, true_and]
theorem r_send_0 {n : Nat} {own blk ep ft : Nat → Nat} {sc : HH} {lk gr : Int32} {mp un : Nat → Nat → Bool} {q : Nat → List MSG} {wt : Nat → List Nat} {wx : Nat → Bool} {lg : Nat → List Nat} {us : Nat → Nat → Nat} {pv : Nat → Nat} {v m : HH} (fz : Nat) (hR : Rel n own blk ep ft sc lk gr mp un q wt wx lg us pv (v) (m)) (hl : (q 0).length < 25) (a : MSG) {k s x k2 s2 x2 : Int32} (hk : k = nI a.1) (hs : s = sbj a) (hx : x = vlu a) (hk2 : k2 = nI a.1) (hs2 : s2 = sbj a) (hx2 : x2 = vlu a) : P_O_send fz 1 k s x v ∧ P_M_send fz (nI 0) k2 s2 x2 m ∧ Rel n own blk ep ft sc lk gr mp un (ug q 0 (q 0 ++ [a])) wt wx lg us pv (B_O_send fz 1 k s x v) (B_M_send fz (nI 0) k2 s2 x2 m) := by
  rw [hk2, hs2, hx2, ← hk, ← hs, ← hx]
  obtain ⟨hL, hT, hX, hS0, hM0, hD0, hR0, hA0, hW0, hG0, hU0, hE0, hS1, hM1, hD1, hR1, hA1, hW1, hG1, hU1, hE1⟩ := hR
  obtain ⟨f, f1, f2, f3, f4, f5⟩ := hR0
  obtain ⟨c1, c2⟩ := hA0
  have s1 := cv_send fz 1 k s x v f1 hl f3 f4
  have s2 := cv_msend fz (b := 0) (by decide) k s x m hl c1
  refine ⟨s1.1, s2.1, ?_⟩
  rw [s1.2, s2.2]
  refine ⟨hL, hT, hX, hS0, hM0, hD0, ?_, ?_, hW0, hG0, hU0, hE0, hS1, hM1, hD1, hR1, ?_, hW1, hG1, hU1, hE1⟩
  · show GR (q 0 ++ [a]) _ _ _ _ _
    refine ⟨f, f1, by rw [List.length_append]; exact hl, f3, by rw [List.length_append]; rfl, ?_⟩
    intro k' a' hk'
    have r5 : ∀ z, (u2 (u2 (u2 (u2 v (1 + 5) ((f + (q 0).length) % 25) k) (1 + 6) ((f + (q 0).length) % 25) s) (1 + 7) ((f + (q 0).length) % 25) x) (1 + 4) 4 (nI ((q 0).length + 1))) 6 z = u2 v 6 ((f + (q 0).length) % 25) k 6 z := fun z => rfl
    have r6 : ∀ z, (u2 (u2 (u2 (u2 v (1 + 5) ((f + (q 0).length) % 25) k) (1 + 6) ((f + (q 0).length) % 25) s) (1 + 7) ((f + (q 0).length) % 25) x) (1 + 4) 4 (nI ((q 0).length + 1))) 7 z = u2 v 7 ((f + (q 0).length) % 25) s 7 z := fun z => rfl
    have r7 : ∀ z, (u2 (u2 (u2 (u2 v (1 + 5) ((f + (q 0).length) % 25) k) (1 + 6) ((f + (q 0).length) % 25) s) (1 + 7) ((f + (q 0).length) % 25) x) (1 + 4) 4 (nI ((q 0).length + 1))) 8 z = u2 v 8 ((f + (q 0).length) % 25) x 8 z := fun z => rfl
    rw [r5, r6, r7]
    rcases Nat.lt_or_ge k' (q 0).length with hlt | hge
    · rw [List.getElem?_append_left hlt] at hk'
      have hne : (f + k') % 25 ≠ (f + (q 0).length) % 25 := by omega
      rw [u2_k v k 6 hne, u2_k v s 7 hne, u2_k v x 8 hne]
      exact f5 k' a' hk'
    · rw [List.getElem?_append_right hge] at hk'
      have hk0 : k' - (q 0).length = 0 := by
        have := (List.getElem?_eq_some_iff.mp hk').1
        simpa using this
      rw [hk0] at hk'
      have ea : a = a' := by simpa using hk'
      have ek : k' = (q 0).length := by omega
      subst ea
      rw [ek, u2_s, u2_s, u2_s]
      exact ⟨hk, hs, hx⟩
  · show GA 0 (q 0 ++ [a]) _ _ _ _
    refine ⟨by rw [List.length_append]; rfl, ?_⟩
    intro k' a' hk'
    have r5 : ∀ z, (u2 (u2 (u2 (u2 m 48 (64 * 0 + (q 0).length) k) 49 (64 * 0 + (q 0).length) s) 50 (64 * 0 + (q 0).length) x) 51 0 (nI ((q 0).length + 1))) 48 z = u2 m 48 (64 * 0 + (q 0).length) k 48 z := fun z => rfl
    have r6 : ∀ z, (u2 (u2 (u2 (u2 m 48 (64 * 0 + (q 0).length) k) 49 (64 * 0 + (q 0).length) s) 50 (64 * 0 + (q 0).length) x) 51 0 (nI ((q 0).length + 1))) 49 z = u2 m 49 (64 * 0 + (q 0).length) s 49 z := fun z => rfl
    have r7 : ∀ z, (u2 (u2 (u2 (u2 m 48 (64 * 0 + (q 0).length) k) 49 (64 * 0 + (q 0).length) s) 50 (64 * 0 + (q 0).length) x) 51 0 (nI ((q 0).length + 1))) 50 z = u2 m 50 (64 * 0 + (q 0).length) x 50 z := fun z => rfl
    rw [r5, r6, r7]
    rcases Nat.lt_or_ge k' (q 0).length with hlt | hge
    · rw [List.getElem?_append_left hlt] at hk'
      have hne : 64 * 0 + k' ≠ 64 * 0 + (q 0).length := by omega
      rw [u2_k m k 48 hne, u2_k m s 49 hne, u2_k m x 50 hne]
      exact c2 k' a' hk'
    · rw [List.getElem?_append_right hge] at hk'
      have hk0 : k' - (q 0).length = 0 := by
        have := (List.getElem?_eq_some_iff.mp hk').1
        simpa using this
      rw [hk0] at hk'
      have ea : a = a' := by simpa using hk'
      have ek : k' = (q 0).length := by omega
      subst ea
      rw [ek, u2_s, u2_s, u2_s]
      exact ⟨hk, hs, hx⟩
  · refine ⟨hA1.1, ?_⟩
    intro k' a' hk'
    have hlen : k' < 25 := by
      obtain ⟨_, _, g2, _⟩ := hR1
      exact Nat.lt_of_lt_of_le (List.getElem?_eq_some_iff.mp hk').1 g2
    have r5 : ∀ z, (u2 (u2 (u2 (u2 m 48 (64 * 0 + (q 0).length) k) 49 (64 * 0 + (q 0).length) s) 50 (64 * 0 + (q 0).length) x) 51 0 (nI ((q 0).length + 1))) 48 z = u2 m 48 (64 * 0 + (q 0).length) k 48 z := fun z => rfl
    have r6 : ∀ z, (u2 (u2 (u2 (u2 m 48 (64 * 0 + (q 0).length) k) 49 (64 * 0 + (q 0).length) s) 50 (64 * 0 + (q 0).length) x) 51 0 (nI ((q 0).length + 1))) 49 z = u2 m 49 (64 * 0 + (q 0).length) s 49 z := fun z => rfl
    have r7 : ∀ z, (u2 (u2 (u2 (u2 m 48 (64 * 0 + (q 0).length) k) 49 (64 * 0 + (q 0).length) s) 50 (64 * 0 + (q 0).length) x) 51 0 (nI ((q 0).length + 1))) 50 z = u2 m 50 (64 * 0 + (q 0).length) x 50 z := fun z => rfl
    have hne : 64 * 1 + k' ≠ 64 * 0 + (q 0).length := by omega
    rw [r5, r6, r7, u2_k m k 48 hne, u2_k m s 49 hne, u2_k m x 50 hne]
    exact hA1.2 k' a' hk'
theorem r_drop_0 {n : Nat} {own blk ep ft : Nat → Nat} {sc : HH} {lk gr : Int32} {mp un : Nat → Nat → Bool} {q : Nat → List MSG} {wt : Nat → List Nat} {wx : Nat → Bool} {lg : Nat → List Nat} {us : Nat → Nat → Nat} {pv : Nat → Nat} {v m : HH} (fz : Nat) (hR : Rel n own blk ep ft sc lk gr mp un q wt wx lg us pv (v) (m)) {a : MSG} {tl : List MSG} (hq : q 0 = a :: tl) : tl.length < 25 ∧ (P_O_kindOfFirst fz 1 v ∧ P_O_subjectOfFirst fz 1 v ∧ P_O_valueOfFirst fz 1 v ∧ P_O_dropFirst fz 1 v) ∧ (B_O_kindOfFirst fz 1 v = nI a.1 ∧ B_O_subjectOfFirst fz 1 v = sbj a ∧ B_O_valueOfFirst fz 1 v = vlu a) ∧ (v 5 4 = nI (tl.length + 1) ∧ m 51 0 = nI (tl.length + 1)) ∧ (m 48 (64 * 0) = nI a.1 ∧ m 49 (64 * 0) = sbj a ∧ m 50 (64 * 0) = vlu a) ∧ Rel n own blk ep ft sc lk gr mp un (ug q 0 tl) wt wx lg us pv (B_O_dropFirst fz 1 v) (sh3 (64 * 0) (64 * 0 + tl.length) (u2 m 51 0 (nI tl.length))) := by
  obtain ⟨hL, hT, hX, hS0, hM0, hD0, hR0, hA0, hW0, hG0, hU0, hE0, hS1, hM1, hD1, hR1, hA1, hW1, hG1, hU1, hE1⟩ := hR
  obtain ⟨f, f1, f2, f3, f4, f5⟩ := hR0
  obtain ⟨c1, c2⟩ := hA0
  rw [hq, List.length_cons] at f2 f4 c1
  have g0 := f5 0 a (by rw [hq]; rfl)
  have g1 := c2 0 a (by rw [hq]; rfl)
  have ef : (f + 0) % 25 = f := by omega
  rw [ef] at g0
  have hx : ix (nI f) = f := nI_clamp (by omega)
  have hv : vp_in (nI f) 25 := vp_in_nI f1 (by decide)
  have f3' : v (1 + 4) 3 = nI f := f3
  have s1 := cv_drop fz 1 v (c := tl.length) f1 (by omega) f3 f4
  refine ⟨by omega, ⟨?_, ?_, ?_, s1.1⟩, ⟨?_, ?_, ?_⟩, ⟨f4, c1⟩, ⟨g1.1, g1.2.1, g1.2.2⟩, ?_⟩
  · simp only [P_O_kindOfFirst, f3', hv, and_true]
  · simp only [P_O_subjectOfFirst, f3', hv, and_true]
  · simp only [P_O_valueOfFirst, f3', hv, and_true]
  · rw [B_O_kindOfFirst, f3', hx]
    exact g0.1
  · rw [B_O_subjectOfFirst, f3', hx]
    exact g0.2.1
  · rw [B_O_valueOfFirst, f3', hx]
    exact g0.2.2
  rw [s1.2]
  refine ⟨hL, hT, hX, hS0, hM0, hD0, ?_, ?_, hW0, hG0, hU0, hE0, hS1, hM1, hD1, hR1, ?_, hW1, hG1, hU1, hE1⟩
  · show GR tl _ _ _ _ _
    refine ⟨(f + 1) % 25, by omega, by omega, rfl, rfl, ?_⟩
    intro k' a' hk'
    have g := f5 (k' + 1) a' (by rw [hq]; exact hk')
    have e : (f + 1) % 25 + k' = (f + 1) % 25 + k' := rfl
    have e2 : ((f + 1) % 25 + k') % 25 = (f + (k' + 1)) % 25 := by omega
    rw [e2]
    exact g
  · show GA 0 tl _ _ _ _
    refine ⟨rfl, ?_⟩
    intro k' a' hk'
    have hlt : k' < tl.length := (List.getElem?_eq_some_iff.mp hk').1
    have g := c2 (k' + 1) a' (by rw [hq]; exact hk')
    have e : ∀ c, (c = 48 ∨ c = 49 ∨ c = 50) → sh3 (64 * 0) (64 * 0 + tl.length) (u2 m 51 0 (nI tl.length)) c (64 * 0 + k') = m c (64 * 0 + (k' + 1)) := by
      intro c hc
      unfold sh3
      rw [if_pos ⟨hc, by omega, by omega⟩, u2_i m _ _ (by omega)]
      rfl
    rw [e 48 (by omega), e 49 (by omega), e 50 (by omega)]
    exact g
  · refine ⟨hA1.1, ?_⟩
    intro k' a' hk'
    have hlen : k' < 25 := by
      obtain ⟨_, _, g2, _⟩ := hR1
      exact Nat.lt_of_lt_of_le (List.getElem?_eq_some_iff.mp hk').1 g2
    have e : ∀ c, (c = 48 ∨ c = 49 ∨ c = 50) → sh3 (64 * 0) (64 * 0 + tl.length) (u2 m 51 0 (nI tl.length)) c (64 * 1 + k') = m c (64 * 1 + k') := by
      intro c hc
      unfold sh3
      rw [if_neg (by omega), u2_i m _ _ (by omega)]
    rw [e 48 (by omega), e 49 (by omega), e 50 (by omega)]
    exact hA1.2 k' a' hk'
theorem r_wadd_0 {n : Nat} {own blk ep ft : Nat → Nat} {sc : HH} {lk gr : Int32} {mp un : Nat → Nat → Bool} {q : Nat → List MSG} {wt : Nat → List Nat} {wx : Nat → Bool} {lg : Nat → List Nat} {us : Nat → Nat → Nat} {pv : Nat → Nat} {v m : HH} (fz : Nat) (hR : Rel n own blk ep ft sc lk gr mp un q wt wx lg us pv (v) (m)) (hl : (wt 0).length < 8) {w : Nat} {x : Int32} (hx : x = nI w) : P_L_add fz 1 x v ∧ Rel n own blk ep ft sc lk gr mp un q (ug wt 0 (wt 0 ++ [w])) wx lg us pv (B_L_add fz 1 x v) (m) := by
  obtain ⟨hL, hT, hX, hS0, hM0, hD0, hR0, hA0, hW0, hG0, hU0, hE0, hS1, hM1, hD1, hR1, hA1, hW1, hG1, hU1, hE1⟩ := hR
  obtain ⟨f1, f2, f3⟩ := hW0
  have s1 := cv_add fz 1 x v hl f2
  refine ⟨s1.1, ?_⟩
  rw [s1.2]
  refine ⟨hL, hT, hX, hS0, hM0, hD0, hR0, hA0, ?_, hG0, hU0, hE0, hS1, hM1, hD1, hR1, hA1, hW1, hG1, hU1, hE1⟩
  show GW (wt 0 ++ [w]) _ _
  refine ⟨by rw [List.length_append]; exact hl, by rw [List.length_append]; rfl, ?_⟩
  intro k' a' hk'
  have r5 : ∀ z, (u2 (u2 v (1 + 9) (wt 0).length x) (1 + 8) 1 (nI ((wt 0).length + 1))) 10 z = u2 v 10 (wt 0).length x 10 z := fun z => rfl
  rw [r5]
  rcases Nat.lt_or_ge k' (wt 0).length with hlt | hge
  · rw [List.getElem?_append_left hlt] at hk'
    rw [u2_k v x 10 (show k' ≠ (wt 0).length by omega)]
    exact f3 k' a' hk'
  · rw [List.getElem?_append_right hge] at hk'
    have hk0 : k' - (wt 0).length = 0 := by
      have := (List.getElem?_eq_some_iff.mp hk').1
      simpa using this
    rw [hk0] at hk'
    have ea : w = a' := by simpa using hk'
    have ek : k' = (wt 0).length := by omega
    subst ea
    rw [ek, u2_s]
    exact hx
theorem r_wrem_0 {n : Nat} {own blk ep ft : Nat → Nat} {sc : HH} {lk gr : Int32} {mp un : Nat → Nat → Bool} {q : Nat → List MSG} {wt : Nat → List Nat} {wx : Nat → Bool} {lg : Nat → List Nat} {us : Nat → Nat → Nat} {pv : Nat → Nat} {v m : HH} (fz : Nat) (hz : 400 ≤ fz) (hR : Rel n own blk ep ft sc lk gr mp un q wt wx lg us pv (v) (m)) {k w : Nat} (hk : (wt 0)[k]? = some w) {x : Int32} (hx : x = nI k) : P_L_remove fz 1 x v ∧ Rel n own blk ep ft sc lk gr mp un q (ug wt 0 ((wt 0).eraseIdx k)) wx lg us pv (B_L_remove fz 1 x v) (m) := by
  subst hx
  obtain ⟨hL, hT, hX, hS0, hM0, hD0, hR0, hA0, hW0, hG0, hU0, hE0, hS1, hM1, hD1, hR1, hA1, hW1, hG1, hU1, hE1⟩ := hR
  obtain ⟨f1, f2, f3⟩ := hW0
  have hlt : k < (wt 0).length := (List.getElem?_eq_some_iff.mp hk).1
  have s1 := cv_remove fz hz 1 f1 v f2 hlt
  refine ⟨s1.1, ?_⟩
  rw [s1.2]
  refine ⟨hL, hT, hX, hS0, hM0, hD0, hR0, hA0, ?_, hG0, hU0, hE0, hS1, hM1, hD1, hR1, hA1, hW1, hG1, hU1, hE1⟩
  show GW ((wt 0).eraseIdx k) _ _
  have hlen : ((wt 0).eraseIdx k).length = (wt 0).length - 1 := List.length_eraseIdx_of_lt hlt
  refine ⟨by omega, by rw [hlen]; rfl, ?_⟩
  intro k' a' hk'
  have hk2 : k' < (wt 0).length - 1 := by
    have := (List.getElem?_eq_some_iff.mp hk').1
    omega
  rw [List.getElem?_eraseIdx] at hk'
  by_cases hc : k' < k
  · rw [if_pos hc] at hk'
    have e : wrm 1 k (wt 0).length v 10 k' = v 10 k' := by
      unfold wrm
      rw [if_neg (by omega), if_neg (by omega)]
    rw [e]
    exact f3 k' a' hk'
  · rw [if_neg hc] at hk'
    have e : wrm 1 k (wt 0).length v 10 k' = v 10 (k' + 1) := by
      unfold wrm
      rw [if_pos (by omega)]
    rw [e]
    exact f3 (k' + 1) a' hk'
theorem r_send_1 {n : Nat} {own blk ep ft : Nat → Nat} {sc : HH} {lk gr : Int32} {mp un : Nat → Nat → Bool} {q : Nat → List MSG} {wt : Nat → List Nat} {wx : Nat → Bool} {lg : Nat → List Nat} {us : Nat → Nat → Nat} {pv : Nat → Nat} {v m : HH} (fz : Nat) (hR : Rel n own blk ep ft sc lk gr mp un q wt wx lg us pv (v) (m)) (hl : (q 1).length < 25) (a : MSG) {k s x k2 s2 x2 : Int32} (hk : k = nI a.1) (hs : s = sbj a) (hx : x = vlu a) (hk2 : k2 = nI a.1) (hs2 : s2 = sbj a) (hx2 : x2 = vlu a) : P_O_send fz 11 k s x v ∧ P_M_send fz (nI 1) k2 s2 x2 m ∧ Rel n own blk ep ft sc lk gr mp un (ug q 1 (q 1 ++ [a])) wt wx lg us pv (B_O_send fz 11 k s x v) (B_M_send fz (nI 1) k2 s2 x2 m) := by
  rw [hk2, hs2, hx2, ← hk, ← hs, ← hx]
  obtain ⟨hL, hT, hX, hS0, hM0, hD0, hR0, hA0, hW0, hG0, hU0, hE0, hS1, hM1, hD1, hR1, hA1, hW1, hG1, hU1, hE1⟩ := hR
  obtain ⟨f, f1, f2, f3, f4, f5⟩ := hR1
  obtain ⟨c1, c2⟩ := hA1
  have s1 := cv_send fz 11 k s x v f1 hl f3 f4
  have s2 := cv_msend fz (b := 1) (by decide) k s x m hl c1
  refine ⟨s1.1, s2.1, ?_⟩
  rw [s1.2, s2.2]
  refine ⟨hL, hT, hX, hS0, hM0, hD0, hR0, ?_, hW0, hG0, hU0, hE0, hS1, hM1, hD1, ?_, ?_, hW1, hG1, hU1, hE1⟩
  · refine ⟨hA0.1, ?_⟩
    intro k' a' hk'
    have hlen : k' < 25 := by
      obtain ⟨_, _, g2, _⟩ := hR0
      exact Nat.lt_of_lt_of_le (List.getElem?_eq_some_iff.mp hk').1 g2
    have r5 : ∀ z, (u2 (u2 (u2 (u2 m 48 (64 * 1 + (q 1).length) k) 49 (64 * 1 + (q 1).length) s) 50 (64 * 1 + (q 1).length) x) 51 1 (nI ((q 1).length + 1))) 48 z = u2 m 48 (64 * 1 + (q 1).length) k 48 z := fun z => rfl
    have r6 : ∀ z, (u2 (u2 (u2 (u2 m 48 (64 * 1 + (q 1).length) k) 49 (64 * 1 + (q 1).length) s) 50 (64 * 1 + (q 1).length) x) 51 1 (nI ((q 1).length + 1))) 49 z = u2 m 49 (64 * 1 + (q 1).length) s 49 z := fun z => rfl
    have r7 : ∀ z, (u2 (u2 (u2 (u2 m 48 (64 * 1 + (q 1).length) k) 49 (64 * 1 + (q 1).length) s) 50 (64 * 1 + (q 1).length) x) 51 1 (nI ((q 1).length + 1))) 50 z = u2 m 50 (64 * 1 + (q 1).length) x 50 z := fun z => rfl
    have hne : 64 * 0 + k' ≠ 64 * 1 + (q 1).length := by omega
    rw [r5, r6, r7, u2_k m k 48 hne, u2_k m s 49 hne, u2_k m x 50 hne]
    exact hA0.2 k' a' hk'
  · show GR (q 1 ++ [a]) _ _ _ _ _
    refine ⟨f, f1, by rw [List.length_append]; exact hl, f3, by rw [List.length_append]; rfl, ?_⟩
    intro k' a' hk'
    have r5 : ∀ z, (u2 (u2 (u2 (u2 v (11 + 5) ((f + (q 1).length) % 25) k) (11 + 6) ((f + (q 1).length) % 25) s) (11 + 7) ((f + (q 1).length) % 25) x) (11 + 4) 4 (nI ((q 1).length + 1))) 16 z = u2 v 16 ((f + (q 1).length) % 25) k 16 z := fun z => rfl
    have r6 : ∀ z, (u2 (u2 (u2 (u2 v (11 + 5) ((f + (q 1).length) % 25) k) (11 + 6) ((f + (q 1).length) % 25) s) (11 + 7) ((f + (q 1).length) % 25) x) (11 + 4) 4 (nI ((q 1).length + 1))) 17 z = u2 v 17 ((f + (q 1).length) % 25) s 17 z := fun z => rfl
    have r7 : ∀ z, (u2 (u2 (u2 (u2 v (11 + 5) ((f + (q 1).length) % 25) k) (11 + 6) ((f + (q 1).length) % 25) s) (11 + 7) ((f + (q 1).length) % 25) x) (11 + 4) 4 (nI ((q 1).length + 1))) 18 z = u2 v 18 ((f + (q 1).length) % 25) x 18 z := fun z => rfl
    rw [r5, r6, r7]
    rcases Nat.lt_or_ge k' (q 1).length with hlt | hge
    · rw [List.getElem?_append_left hlt] at hk'
      have hne : (f + k') % 25 ≠ (f + (q 1).length) % 25 := by omega
      rw [u2_k v k 16 hne, u2_k v s 17 hne, u2_k v x 18 hne]
      exact f5 k' a' hk'
    · rw [List.getElem?_append_right hge] at hk'
      have hk0 : k' - (q 1).length = 0 := by
        have := (List.getElem?_eq_some_iff.mp hk').1
        simpa using this
      rw [hk0] at hk'
      have ea : a = a' := by simpa using hk'
      have ek : k' = (q 1).length := by omega
      subst ea
      rw [ek, u2_s, u2_s, u2_s]
      exact ⟨hk, hs, hx⟩
  · show GA 1 (q 1 ++ [a]) _ _ _ _
    refine ⟨by rw [List.length_append]; rfl, ?_⟩
    intro k' a' hk'
    have r5 : ∀ z, (u2 (u2 (u2 (u2 m 48 (64 * 1 + (q 1).length) k) 49 (64 * 1 + (q 1).length) s) 50 (64 * 1 + (q 1).length) x) 51 1 (nI ((q 1).length + 1))) 48 z = u2 m 48 (64 * 1 + (q 1).length) k 48 z := fun z => rfl
    have r6 : ∀ z, (u2 (u2 (u2 (u2 m 48 (64 * 1 + (q 1).length) k) 49 (64 * 1 + (q 1).length) s) 50 (64 * 1 + (q 1).length) x) 51 1 (nI ((q 1).length + 1))) 49 z = u2 m 49 (64 * 1 + (q 1).length) s 49 z := fun z => rfl
    have r7 : ∀ z, (u2 (u2 (u2 (u2 m 48 (64 * 1 + (q 1).length) k) 49 (64 * 1 + (q 1).length) s) 50 (64 * 1 + (q 1).length) x) 51 1 (nI ((q 1).length + 1))) 50 z = u2 m 50 (64 * 1 + (q 1).length) x 50 z := fun z => rfl
    rw [r5, r6, r7]
    rcases Nat.lt_or_ge k' (q 1).length with hlt | hge
    · rw [List.getElem?_append_left hlt] at hk'
      have hne : 64 * 1 + k' ≠ 64 * 1 + (q 1).length := by omega
      rw [u2_k m k 48 hne, u2_k m s 49 hne, u2_k m x 50 hne]
      exact c2 k' a' hk'
    · rw [List.getElem?_append_right hge] at hk'
      have hk0 : k' - (q 1).length = 0 := by
        have := (List.getElem?_eq_some_iff.mp hk').1
        simpa using this
      rw [hk0] at hk'
      have ea : a = a' := by simpa using hk'
      have ek : k' = (q 1).length := by omega
      subst ea
      rw [ek, u2_s, u2_s, u2_s]
      exact ⟨hk, hs, hx⟩
theorem r_drop_1 {n : Nat} {own blk ep ft : Nat → Nat} {sc : HH} {lk gr : Int32} {mp un : Nat → Nat → Bool} {q : Nat → List MSG} {wt : Nat → List Nat} {wx : Nat → Bool} {lg : Nat → List Nat} {us : Nat → Nat → Nat} {pv : Nat → Nat} {v m : HH} (fz : Nat) (hR : Rel n own blk ep ft sc lk gr mp un q wt wx lg us pv (v) (m)) {a : MSG} {tl : List MSG} (hq : q 1 = a :: tl) : tl.length < 25 ∧ (P_O_kindOfFirst fz 11 v ∧ P_O_subjectOfFirst fz 11 v ∧ P_O_valueOfFirst fz 11 v ∧ P_O_dropFirst fz 11 v) ∧ (B_O_kindOfFirst fz 11 v = nI a.1 ∧ B_O_subjectOfFirst fz 11 v = sbj a ∧ B_O_valueOfFirst fz 11 v = vlu a) ∧ (v 15 4 = nI (tl.length + 1) ∧ m 51 1 = nI (tl.length + 1)) ∧ (m 48 (64 * 1) = nI a.1 ∧ m 49 (64 * 1) = sbj a ∧ m 50 (64 * 1) = vlu a) ∧ Rel n own blk ep ft sc lk gr mp un (ug q 1 tl) wt wx lg us pv (B_O_dropFirst fz 11 v) (sh3 (64 * 1) (64 * 1 + tl.length) (u2 m 51 1 (nI tl.length))) := by
  obtain ⟨hL, hT, hX, hS0, hM0, hD0, hR0, hA0, hW0, hG0, hU0, hE0, hS1, hM1, hD1, hR1, hA1, hW1, hG1, hU1, hE1⟩ := hR
  obtain ⟨f, f1, f2, f3, f4, f5⟩ := hR1
  obtain ⟨c1, c2⟩ := hA1
  rw [hq, List.length_cons] at f2 f4 c1
  have g0 := f5 0 a (by rw [hq]; rfl)
  have g1 := c2 0 a (by rw [hq]; rfl)
  have ef : (f + 0) % 25 = f := by omega
  rw [ef] at g0
  have hx : ix (nI f) = f := nI_clamp (by omega)
  have hv : vp_in (nI f) 25 := vp_in_nI f1 (by decide)
  have f3' : v (11 + 4) 3 = nI f := f3
  have s1 := cv_drop fz 11 v (c := tl.length) f1 (by omega) f3 f4
  refine ⟨by omega, ⟨?_, ?_, ?_, s1.1⟩, ⟨?_, ?_, ?_⟩, ⟨f4, c1⟩, ⟨g1.1, g1.2.1, g1.2.2⟩, ?_⟩
  · simp only [P_O_kindOfFirst, f3', hv, and_true]
  · simp only [P_O_subjectOfFirst, f3', hv, and_true]
  · simp only [P_O_valueOfFirst, f3', hv, and_true]
  · rw [B_O_kindOfFirst, f3', hx]
    exact g0.1
  · rw [B_O_subjectOfFirst, f3', hx]
    exact g0.2.1
  · rw [B_O_valueOfFirst, f3', hx]
    exact g0.2.2
  rw [s1.2]
  refine ⟨hL, hT, hX, hS0, hM0, hD0, hR0, ?_, hW0, hG0, hU0, hE0, hS1, hM1, hD1, ?_, ?_, hW1, hG1, hU1, hE1⟩
  · refine ⟨hA0.1, ?_⟩
    intro k' a' hk'
    have hlen : k' < 25 := by
      obtain ⟨_, _, g2, _⟩ := hR0
      exact Nat.lt_of_lt_of_le (List.getElem?_eq_some_iff.mp hk').1 g2
    have e : ∀ c, (c = 48 ∨ c = 49 ∨ c = 50) → sh3 (64 * 1) (64 * 1 + tl.length) (u2 m 51 1 (nI tl.length)) c (64 * 0 + k') = m c (64 * 0 + k') := by
      intro c hc
      unfold sh3
      rw [if_neg (by omega), u2_i m _ _ (by omega)]
    rw [e 48 (by omega), e 49 (by omega), e 50 (by omega)]
    exact hA0.2 k' a' hk'
  · show GR tl _ _ _ _ _
    refine ⟨(f + 1) % 25, by omega, by omega, rfl, rfl, ?_⟩
    intro k' a' hk'
    have g := f5 (k' + 1) a' (by rw [hq]; exact hk')
    have e : (f + 1) % 25 + k' = (f + 1) % 25 + k' := rfl
    have e2 : ((f + 1) % 25 + k') % 25 = (f + (k' + 1)) % 25 := by omega
    rw [e2]
    exact g
  · show GA 1 tl _ _ _ _
    refine ⟨rfl, ?_⟩
    intro k' a' hk'
    have hlt : k' < tl.length := (List.getElem?_eq_some_iff.mp hk').1
    have g := c2 (k' + 1) a' (by rw [hq]; exact hk')
    have e : ∀ c, (c = 48 ∨ c = 49 ∨ c = 50) → sh3 (64 * 1) (64 * 1 + tl.length) (u2 m 51 1 (nI tl.length)) c (64 * 1 + k') = m c (64 * 1 + (k' + 1)) := by
      intro c hc
      unfold sh3
      rw [if_pos ⟨hc, by omega, by omega⟩, u2_i m _ _ (by omega)]
      rfl
    rw [e 48 (by omega), e 49 (by omega), e 50 (by omega)]
    exact g
theorem r_wadd_1 {n : Nat} {own blk ep ft : Nat → Nat} {sc : HH} {lk gr : Int32} {mp un : Nat → Nat → Bool} {q : Nat → List MSG} {wt : Nat → List Nat} {wx : Nat → Bool} {lg : Nat → List Nat} {us : Nat → Nat → Nat} {pv : Nat → Nat} {v m : HH} (fz : Nat) (hR : Rel n own blk ep ft sc lk gr mp un q wt wx lg us pv (v) (m)) (hl : (wt 1).length < 8) {w : Nat} {x : Int32} (hx : x = nI w) : P_L_add fz 11 x v ∧ Rel n own blk ep ft sc lk gr mp un q (ug wt 1 (wt 1 ++ [w])) wx lg us pv (B_L_add fz 11 x v) (m) := by
  obtain ⟨hL, hT, hX, hS0, hM0, hD0, hR0, hA0, hW0, hG0, hU0, hE0, hS1, hM1, hD1, hR1, hA1, hW1, hG1, hU1, hE1⟩ := hR
  obtain ⟨f1, f2, f3⟩ := hW1
  have s1 := cv_add fz 11 x v hl f2
  refine ⟨s1.1, ?_⟩
  rw [s1.2]
  refine ⟨hL, hT, hX, hS0, hM0, hD0, hR0, hA0, hW0, hG0, hU0, hE0, hS1, hM1, hD1, hR1, hA1, ?_, hG1, hU1, hE1⟩
  show GW (wt 1 ++ [w]) _ _
  refine ⟨by rw [List.length_append]; exact hl, by rw [List.length_append]; rfl, ?_⟩
  intro k' a' hk'
  have r5 : ∀ z, (u2 (u2 v (11 + 9) (wt 1).length x) (11 + 8) 1 (nI ((wt 1).length + 1))) 20 z = u2 v 20 (wt 1).length x 20 z := fun z => rfl
  rw [r5]
  rcases Nat.lt_or_ge k' (wt 1).length with hlt | hge
  · rw [List.getElem?_append_left hlt] at hk'
    rw [u2_k v x 20 (show k' ≠ (wt 1).length by omega)]
    exact f3 k' a' hk'
  · rw [List.getElem?_append_right hge] at hk'
    have hk0 : k' - (wt 1).length = 0 := by
      have := (List.getElem?_eq_some_iff.mp hk').1
      simpa using this
    rw [hk0] at hk'
    have ea : w = a' := by simpa using hk'
    have ek : k' = (wt 1).length := by omega
    subst ea
    rw [ek, u2_s]
    exact hx
theorem r_wrem_1 {n : Nat} {own blk ep ft : Nat → Nat} {sc : HH} {lk gr : Int32} {mp un : Nat → Nat → Bool} {q : Nat → List MSG} {wt : Nat → List Nat} {wx : Nat → Bool} {lg : Nat → List Nat} {us : Nat → Nat → Nat} {pv : Nat → Nat} {v m : HH} (fz : Nat) (hz : 400 ≤ fz) (hR : Rel n own blk ep ft sc lk gr mp un q wt wx lg us pv (v) (m)) {k w : Nat} (hk : (wt 1)[k]? = some w) {x : Int32} (hx : x = nI k) : P_L_remove fz 11 x v ∧ Rel n own blk ep ft sc lk gr mp un q (ug wt 1 ((wt 1).eraseIdx k)) wx lg us pv (B_L_remove fz 11 x v) (m) := by
  subst hx
  obtain ⟨hL, hT, hX, hS0, hM0, hD0, hR0, hA0, hW0, hG0, hU0, hE0, hS1, hM1, hD1, hR1, hA1, hW1, hG1, hU1, hE1⟩ := hR
  obtain ⟨f1, f2, f3⟩ := hW1
  have hlt : k < (wt 1).length := (List.getElem?_eq_some_iff.mp hk).1
  have s1 := cv_remove fz hz 11 f1 v f2 hlt
  refine ⟨s1.1, ?_⟩
  rw [s1.2]
  refine ⟨hL, hT, hX, hS0, hM0, hD0, hR0, hA0, hW0, hG0, hU0, hE0, hS1, hM1, hD1, hR1, hA1, ?_, hG1, hU1, hE1⟩
  show GW ((wt 1).eraseIdx k) _ _
  have hlen : ((wt 1).eraseIdx k).length = (wt 1).length - 1 := List.length_eraseIdx_of_lt hlt
  refine ⟨by omega, by rw [hlen]; rfl, ?_⟩
  intro k' a' hk'
  have hk2 : k' < (wt 1).length - 1 := by
    have := (List.getElem?_eq_some_iff.mp hk').1
    omega
  rw [List.getElem?_eraseIdx] at hk'
  by_cases hc : k' < k
  · rw [if_pos hc] at hk'
    have e : wrm 11 k (wt 1).length v 20 k' = v 20 k' := by
      unfold wrm
      rw [if_neg (by omega), if_neg (by omega)]
    rw [e]
    exact f3 k' a' hk'
  · rw [if_neg hc] at hk'
    have e : wrm 11 k (wt 1).length v 20 k' = v 20 (k' + 1) := by
      unfold wrm
      rw [if_pos (by omega)]
    rw [e]
    exact f3 (k' + 1) a' hk'
theorem r_wx {n : Nat} {own blk ep ft : Nat → Nat} {sc : HH} {lk gr : Int32} {mp un : Nat → Nat → Bool} {q : Nat → List MSG} {wt : Nat → List Nat} {wx : Nat → Bool} {lg : Nat → List Nat} {us : Nat → Nat → Nat} {pv : Nat → Nat} {v m : HH} (hR : Rel n own blk ep ft sc lk gr mp un q wt wx lg us pv (v) (m)) {w : Nat} (h1 : 1 ≤ w) (f : Bool) {x : Int32} (hx : x = bi f) : Rel n own blk ep ft sc lk gr mp un q wt (ug wx w f) lg us pv (v) (u2 m 33 w x) := by
  obtain ⟨hL, hT, hX, hS0, hM0, hD0, hR0, hA0, hW0, hG0, hU0, hE0, hS1, hM1, hD1, hR1, hA1, hW1, hG1, hU1, hE1⟩ := hR
  refine ⟨hL, hT, ?_, hS0, hM0, hD0, hR0, hA0, hW0, hG0, hU0, hE0, hS1, hM1, hD1, hR1, hA1, hW1, hG1, hU1, hE1⟩
  intro w' g1 g2
  by_cases e : w' = w
  · subst e
    rw [u2_s, hx]
    have e2 : ug wx w' f w' = f := if_pos rfl
    rw [e2]
  · rw [u2_k m x 33 e]
    have e2 : ug wx w f w' = wx w' := if_neg e
    rw [e2]
    exact hX w' g1 g2
end
section
theorem nI1_0 : ¬ nI 1 = 0 := by decide +kernel
theorem nO_0 (fz : Nat) (h : HH) : B_V_nodeOf fz (nI 0) h = 1 := by rw [B_V_nodeOf, if_pos nI_0]
theorem nO_1 (fz : Nat) (h : HH) : B_V_nodeOf fz (nI 1) h = 11 := by rw [B_V_nodeOf, if_neg nI1_0]
theorem r_empty_0 {n : Nat} {own blk ep ft : Nat → Nat} {sc : HH} {lk gr : Int32} {mp un : Nat → Nat → Bool} {q : Nat → List MSG} {wt : Nat → List Nat} {wx : Nat → Bool} {lg : Nat → List Nat} {us : Nat → Nat → Nat} {pv : Nat → Nat} {v m : HH} (fz : Nat) (hz : 400 ≤ fz) (hR : Rel n own blk ep ft sc lk gr mp un q wt wx lg us pv (v) (m)) : (v 1 5 = 0 ↔ ∀ j, j < 32 → mp 0 j = false) ∧ P_M_nothingInMap fz (nI 0) m ∧ (B_M_nothingInMap fz (nI 0) m = 0 ↔ ¬ ∀ j, j < 32 → mp 0 j = false) := by
  obtain ⟨hL, hT, hX, hS0, hM0, hD0, hR0, hA0, hW0, hG0, hU0, hE0, hS1, hM1, hD1, hR1, hA1, hW1, hG1, hU1, hE1⟩ := hR
  have c := cv_nothingInMap fz hz (b := 0) (by decide) m
  refine ⟨?_, c.1, ?_⟩
  · rw [bt_zero]
    exact ⟨fun r j hj => (hM0 j hj).1.symm.trans (r j hj), fun r j hj => (hM0 j hj).1.trans (r j hj)⟩
  · rw [c.2]
    exact not_congr ⟨fun r j hj => (bi_0 _).mp ((hM0 j hj).2.symm.trans (r j hj)), fun r j hj => (hM0 j hj).2.trans ((bi_0 _).mpr (r j hj))⟩
theorem r_end_0 {n : Nat} {own blk ep ft : Nat → Nat} {sc : HH} {lk gr : Int32} {mp un : Nat → Nat → Bool} {q : Nat → List MSG} {wt : Nat → List Nat} {wx : Nat → Bool} {lg : Nat → List Nat} {us : Nat → Nat → Nat} {pv : Nat → Nat} {v m : HH} (fz : Nat) (hz : 400 ≤ fz) (hn : n ≤ 300) (ho : ∀ w, 1 ≤ w → w ≤ n → own w < 2 ∧ ft w < 5) (hR : Rel n own blk ep ft sc lk gr mp un q wt wx lg us pv (v) (m)) (hl : (q 0).length < 25) : P_V_end fz 1 v ∧ P_M_endIfEmpty_30 fz (nI 0) (u2 (u2 (u2 m 44 0 0) 41 0 0) 39 0 0) ∧ Rel n own blk ep (cft own ft 0 3 2 n) (u2 (u2 (u2 sc 12 0 0) 9 0 0) 7 0 0) lk gr mp un (ug q 0 (q 0 ++ [(5, 0, sc 6 0)])) wt wx lg us pv (B_V_end fz 1 v) (B_M_endIfEmpty_30 fz (nI 0) (u2 (u2 (u2 m 44 0 0) 41 0 0) 39 0 0)) := by
  have r1 := r_set_7_0 (r_set_9_0 (r_set_12_0 hR 0) 0) 0
  have hb0 : (u2 (u2 (u2 v 1 12 0) 1 9 0) 1 7 0) 1 0 = nI 0 := by
    obtain ⟨hL, hT, hX, hS0, hM0, hD0, hR0, hA0, hW0, hG0, hU0, hE0, hS1, hM1, hD1, hR1, hA1, hW1, hG1, hU1, hE1⟩ := r1
    exact hS0.1
  obtain ⟨p1, p2, r2⟩ := r_chft fz hz hn ho r1 (b := 0) (a := 3) (y := 2) (by decide) (by decide) hb0 (xb2 := nI 0) rfl li3 li2
  have hxb : ix (nI 0) = 0 := nI_clamp (by decide)
  have hvb : vp_in (nI 0) 2 := vp_in_nI (by decide) (by decide)
  have hv6 : (B_T_changeFates fz ((u2 (u2 (u2 v 1 12 0) 1 9 0) 1 7 0) 1 0) 3 2 (u2 (u2 (u2 v 1 12 0) 1 9 0) 1 7 0)) 1 6 = sc 6 0 := by
    obtain ⟨hL, hT, hX, hS0, hM0, hD0, hR0, hA0, hW0, hG0, hU0, hE0, hS1, hM1, hD1, hR1, hA1, hW1, hG1, hU1, hE1⟩ := r2
    exact hS0.2.1
  have hm6 : (B_M_turnInto fz (nI 0) 3 2 (u2 (u2 (u2 m 44 0 0) 41 0 0) 39 0 0)) 38 0 = sc 6 0 := by
    obtain ⟨hL, hT, hX, hS0, hM0, hD0, hR0, hA0, hW0, hG0, hU0, hE0, hS1, hM1, hD1, hR1, hA1, hW1, hG1, hU1, hE1⟩ := r2
    obtain ⟨a0, a1, a2, a3, a4, a5, a6, a7, a8, a9, _⟩ := hS0
    exact a9
  obtain ⟨p3, p4, r3⟩ := r_send_0 fz r2 hl (5, 0, sc 6 0) (k := 5) (s := (B_T_changeFates fz ((u2 (u2 (u2 v 1 12 0) 1 9 0) 1 7 0) 1 0) 3 2 (u2 (u2 (u2 v 1 12 0) 1 9 0) 1 7 0)) 1 6) (x := 0) (k2 := 5) (s2 := (B_M_turnInto fz (nI 0) 3 2 (u2 (u2 (u2 m 44 0 0) 41 0 0) 39 0 0)) 38 0) (x2 := 0) li5 hv6 rfl li5 hm6 rfl
  refine ⟨⟨p1, p3, trivial⟩, ?_, ?_⟩
  · simp only [P_M_endIfEmpty_30, P_M_endIfEmpty_37, hxb, hvb, p2, p4, and_true]
  · simp only [B_M_endIfEmpty_30, B_M_endIfEmpty_37, hxb]
    exact r3
theorem r_endif_0 {n : Nat} {own blk ep ft : Nat → Nat} {sc : HH} {lk gr : Int32} {mp un : Nat → Nat → Bool} {q : Nat → List MSG} {wt : Nat → List Nat} {wx : Nat → Bool} {lg : Nat → List Nat} {us : Nat → Nat → Nat} {pv : Nat → Nat} {v m : HH} (fz : Nat) (hz : 400 ≤ fz) (hn : n ≤ 300) (ho : ∀ w, 1 ≤ w → w ≤ n → own w < 2 ∧ ft w < 5) (hR : Rel n own blk ep ft sc lk gr mp un q wt wx lg us pv (v) (m)) (hl : (q 0).length < 25) : ((∀ j, j < 32 → mp 0 j = false) → v 1 5 = 0 ∧ P_V_end fz 1 v ∧ P_M_endIfEmpty fz (nI 0) m ∧ Rel n own blk ep (cft own ft 0 3 2 n) (u2 (u2 (u2 sc 12 0 0) 9 0 0) 7 0 0) lk gr mp un (ug q 0 (q 0 ++ [(5, 0, sc 6 0)])) wt wx lg us pv (B_V_end fz 1 v) (B_M_endIfEmpty fz (nI 0) m)) ∧ ((¬ ∀ j, j < 32 → mp 0 j = false) → (¬ v 1 5 = 0) ∧ P_M_endIfEmpty fz (nI 0) m ∧ B_M_endIfEmpty fz (nI 0) m = m) := by
  have hxb : ix (nI 0) = 0 := nI_clamp (by decide)
  have hvb : vp_in (nI 0) 2 := vp_in_nI (by decide) (by decide)
  obtain ⟨e1, e2, e3⟩ := r_empty_0 fz hz hR
  refine ⟨fun hE => ?_, fun hE => ?_⟩
  · obtain ⟨p1, p2, r⟩ := r_end_0 fz hz hn ho hR hl
    have g : ¬ B_M_nothingInMap fz (nI 0) m = 0 := fun h => e3.mp h hE
    refine ⟨e1.mpr hE, p1, ?_, ?_⟩
    · simp only [P_M_endIfEmpty, hxb, hvb, e2, g, p2, not_false_eq_true, true_implies, false_implies, and_true, true_and]
    · simp only [B_M_endIfEmpty, hxb, g, if_false]
      exact r
  · have g : B_M_nothingInMap fz (nI 0) m = 0 := e3.mpr hE
    refine ⟨fun h => hE (e1.mp h), ?_, ?_⟩
    · simp only [P_M_endIfEmpty, e2, g, not_true_eq_false, true_implies, false_implies, and_true, true_and]
    · simp only [B_M_endIfEmpty, g, if_true]
theorem r_alone_0 {n : Nat} {own blk ep ft : Nat → Nat} {sc : HH} {lk gr : Int32} {mp un : Nat → Nat → Bool} {q : Nat → List MSG} {wt : Nat → List Nat} {wx : Nat → Bool} {lg : Nat → List Nat} {us : Nat → Nat → Nat} {pv : Nat → Nat} {v m : HH} (fz : Nat) (hn : n ≤ 300) (hR : Rel n own blk ep ft sc lk gr mp un q wt wx lg us pv (v) (m)) {w : Nat} (h1 : 1 ≤ w) (h2 : w ≤ n) (hw : own w = 0) (hk : blk w < 32) : P_V_endUpAlone fz (nI w) v ∧ P_M_alone fz (nI w) m ∧ ∃ (sc' : HH) (gr' : Int32), (Rel n own blk ep (ug ft w 3) (sc') lk (gr') (ug mp 0 (fun k => mp 0 k || decide (k = blk w))) un q wt wx lg us pv (B_V_endUpAlone fz (nI w) v) (B_M_alone fz (nI w) m)) ∧ ((sc' = sc ∧ gr' = gr) ∨ (gr' = gr + 1 ∧ sc' = u2 (u2 sc 7 0 (sc 6 0)) 6 0 (gr + 1))) := by
  have hxw : ix (nI w) = w := nI_clamp (by omega)
  have hvw : vp_in (nI w) 301 := vp_in_nI (by omega) (by decide)
  have hxb : ix (nI 0) = 0 := nI_clamp (by decide)
  have hvb : vp_in (nI 0) 2 := vp_in_nI (by decide) (by decide)
  have hxk : ix (nI (32 * 0 + blk w)) = 32 * 0 + blk w := nI_clamp (by omega)
  have hvk : vp_in (nI (32 * 0 + blk w)) 64 := vp_in_nI (by omega) (by decide)
  have r2 := r_mapset_0 (r_ft hR h1 h2 3 li3) hk
  have hno : B_V_nodeOf fz (nI 0) (u2 v 26 w 3) = 1 := nO_0 fz _
  obtain ⟨hL, hT, hX, hS0, hM0, hD0, hR0, hA0, hW0, hG0, hU0, hE0, hS1, hM1, hD1, hR1, hA1, hW1, hG1, hU1, hE1⟩ := hR
  obtain ⟨l1, l2, l3, l4⟩ := hL
  obtain ⟨a1, a2, a3, a4, a5⟩ := hT
  obtain ⟨⟨e1, e2, e3, e4, e5⟩, f1, f2, f3, f4⟩ := a5 w h1 h2
  rw [hw] at e1 f1
  obtain ⟨s0, s1, s2, s3, s4, s5, s6, s7, s8, s9, s10, _⟩ := hS0
  have e1' : (u2 v 26 w 3) 22 w = nI 0 := e1
  have e2' : (u2 v 26 w 3) 23 w = nI (blk w) := e2
  have e5' : (u2 v 26 w 3) 1 5 = v 1 5 := rfl
  have f2' : (u2 m 32 w 3) 29 w = nI (blk w) := f2
  have t7 : (u2 (u2 v 26 w 3) 1 5 (v 1 5 ||| ((1 : Int32) <<< (nI (blk w) &&& 31)))) 1 7 = sc 7 0 := s2
  have t6 : (u2 (u2 v 26 w 3) 1 5 (v 1 5 ||| ((1 : Int32) <<< (nI (blk w) &&& 31)))) 1 6 = sc 6 0 := s1
  have u7 : (u2 (u2 m 32 w 3) 35 (32 * 0 + blk w) 1) 39 0 = sc 7 0 := s10
  have u6 : (u2 (u2 m 32 w 3) 35 (32 * 0 + blk w) 1) 38 0 = sc 6 0 := s9
  by_cases h7 : sc 7 0 = 0
  · have t4 : (u2 (u2 (u2 v 26 w 3) 1 5 (v 1 5 ||| ((1 : Int32) <<< (nI (blk w) &&& 31)))) 1 7 (sc 6 0)) 0 4 = gr := l2
    have t4' : (u2 (u2 (u2 (u2 v 26 w 3) 1 5 (v 1 5 ||| ((1 : Int32) <<< (nI (blk w) &&& 31)))) 1 7 (sc 6 0)) 0 4 (gr + 1)) 0 4 = gr + 1 := rfl
    have u4 : (u2 (u2 (u2 m 32 w 3) 35 (32 * 0 + blk w) 1) 39 0 (sc 6 0)) 27 14 = gr := l4
    have u4' : (u2 (u2 (u2 (u2 m 32 w 3) 35 (32 * 0 + blk w) 1) 39 0 (sc 6 0)) 27 14 (gr + 1)) 27 14 = gr + 1 := rfl
    have r5 := r_set_6_0 (r_gr (r_set_7_0 r2 (sc 6 0)) (gr + 1)) (gr + 1)
    refine ⟨?_, ?_, _, _, ?_, Or.inr ⟨rfl, rfl⟩⟩
    · simp only [P_V_endUpAlone, P_V_endUpAlone_10, P_V_endUpAlone_44, P_V_endUpAlone_59, P_V_endUpAlone_69, P_V_nodeOf, hxw, hvw, implies_true, and_true, true_and]
    · simp only [P_M_alone, P_M_alone_14, P_M_alone_31, P_M_alone_52, P_M_alone_62, hxw, hvw, f1, f2', x32, hxk, hvk, hxb, hvb, implies_true, and_true, true_and]
    · simp only [B_V_endUpAlone, B_V_endUpAlone_10, B_V_endUpAlone_44, B_V_endUpAlone_59, B_V_endUpAlone_69, hxw, e1', hno, e2', e5', t7, t6, h7, t4, t4', B_M_alone, B_M_alone_14, B_M_alone_31, B_M_alone_52, B_M_alone_62, f1, f2', x32, hxk, hxb, u7, u6, u4, u4', if_true]
      exact r5
  · refine ⟨?_, ?_, _, _, ?_, Or.inl ⟨rfl, rfl⟩⟩
    · simp only [P_V_endUpAlone, P_V_endUpAlone_10, P_V_endUpAlone_44, P_V_endUpAlone_59, P_V_endUpAlone_69, P_V_nodeOf, hxw, hvw, implies_true, and_true, true_and]
    · simp only [P_M_alone, P_M_alone_14, P_M_alone_31, P_M_alone_52, P_M_alone_62, hxw, hvw, f1, f2', x32, hxk, hvk, hxb, hvb, implies_true, and_true, true_and]
    · simp only [B_V_endUpAlone, B_V_endUpAlone_10, B_V_endUpAlone_44, hxw, e1', hno, e2', e5', t7, h7, B_M_alone, B_M_alone_14, B_M_alone_31, f1, f2', x32, hxk, hxb, u7, if_false]
      exact r2
theorem r_leave_0 {n : Nat} {own blk ep ft : Nat → Nat} {sc : HH} {lk gr : Int32} {mp un : Nat → Nat → Bool} {q : Nat → List MSG} {wt : Nat → List Nat} {wx : Nat → Bool} {lg : Nat → List Nat} {us : Nat → Nat → Nat} {pv : Nat → Nat} {v m : HH} (fz : Nat) (hR : Rel n own blk ep ft sc lk gr mp un q wt wx lg us pv (v) (m)) : Rel n own blk ep ft (u2 (u2 sc 12 0 0) 13 0 0) lk gr mp (ug un 0 (fun _ => false)) (ug q 0 []) (ug wt 0 []) wx lg us pv (B_N_leaveLink fz 1 v) (u2 (u2 (u2 m 51 0 0) 44 0 0) 45 0 0) := by
  obtain ⟨hL, hT, hX, hS0, hM0, hD0, hR0, hA0, hW0, hG0, hU0, hE0, hS1, hM1, hD1, hR1, hA1, hW1, hG1, hU1, hE1⟩ := hR
  obtain ⟨a0, a1, a2, a3, a4, a5, a6, a7, a8, a9, a10, a11, a12, a13, a14, a15, a16⟩ := hS0
  obtain ⟨f, f1, f2, f3, f4, f5⟩ := hR0
  exact ⟨hL, hT, hX, ⟨a0, a1, a2, a3, a4, a5, a6, rfl, rfl, a9, a10, a11, a12, a13, a14, rfl, rfl⟩, hM0, hD0, ⟨f, f1, Nat.zero_le _, f3, li0, fun k a hk => by cases hk⟩, ⟨li0, fun k a hk => by cases hk⟩, ⟨Nat.zero_le _, li0, fun k a hk => by cases hk⟩, hG0, fun j hj => b_0 j, hE0, hS1, hM1, hD1, hR1, hA1, hW1, hG1, hU1, hE1⟩
theorem r_empty_1 {n : Nat} {own blk ep ft : Nat → Nat} {sc : HH} {lk gr : Int32} {mp un : Nat → Nat → Bool} {q : Nat → List MSG} {wt : Nat → List Nat} {wx : Nat → Bool} {lg : Nat → List Nat} {us : Nat → Nat → Nat} {pv : Nat → Nat} {v m : HH} (fz : Nat) (hz : 400 ≤ fz) (hR : Rel n own blk ep ft sc lk gr mp un q wt wx lg us pv (v) (m)) : (v 11 5 = 0 ↔ ∀ j, j < 32 → mp 1 j = false) ∧ P_M_nothingInMap fz (nI 1) m ∧ (B_M_nothingInMap fz (nI 1) m = 0 ↔ ¬ ∀ j, j < 32 → mp 1 j = false) := by
  obtain ⟨hL, hT, hX, hS0, hM0, hD0, hR0, hA0, hW0, hG0, hU0, hE0, hS1, hM1, hD1, hR1, hA1, hW1, hG1, hU1, hE1⟩ := hR
  have c := cv_nothingInMap fz hz (b := 1) (by decide) m
  refine ⟨?_, c.1, ?_⟩
  · rw [bt_zero]
    exact ⟨fun r j hj => (hM1 j hj).1.symm.trans (r j hj), fun r j hj => (hM1 j hj).1.trans (r j hj)⟩
  · rw [c.2]
    exact not_congr ⟨fun r j hj => (bi_0 _).mp ((hM1 j hj).2.symm.trans (r j hj)), fun r j hj => (hM1 j hj).2.trans ((bi_0 _).mpr (r j hj))⟩
theorem r_end_1 {n : Nat} {own blk ep ft : Nat → Nat} {sc : HH} {lk gr : Int32} {mp un : Nat → Nat → Bool} {q : Nat → List MSG} {wt : Nat → List Nat} {wx : Nat → Bool} {lg : Nat → List Nat} {us : Nat → Nat → Nat} {pv : Nat → Nat} {v m : HH} (fz : Nat) (hz : 400 ≤ fz) (hn : n ≤ 300) (ho : ∀ w, 1 ≤ w → w ≤ n → own w < 2 ∧ ft w < 5) (hR : Rel n own blk ep ft sc lk gr mp un q wt wx lg us pv (v) (m)) (hl : (q 1).length < 25) : P_V_end fz 11 v ∧ P_M_endIfEmpty_30 fz (nI 1) (u2 (u2 (u2 m 44 1 0) 41 1 0) 39 1 0) ∧ Rel n own blk ep (cft own ft 1 3 2 n) (u2 (u2 (u2 sc 12 1 0) 9 1 0) 7 1 0) lk gr mp un (ug q 1 (q 1 ++ [(5, 0, sc 6 1)])) wt wx lg us pv (B_V_end fz 11 v) (B_M_endIfEmpty_30 fz (nI 1) (u2 (u2 (u2 m 44 1 0) 41 1 0) 39 1 0)) := by
  have r1 := r_set_7_1 (r_set_9_1 (r_set_12_1 hR 0) 0) 0
  have hb0 : (u2 (u2 (u2 v 11 12 0) 11 9 0) 11 7 0) 11 0 = nI 1 := by
    obtain ⟨hL, hT, hX, hS0, hM0, hD0, hR0, hA0, hW0, hG0, hU0, hE0, hS1, hM1, hD1, hR1, hA1, hW1, hG1, hU1, hE1⟩ := r1
    exact hS1.1
  obtain ⟨p1, p2, r2⟩ := r_chft fz hz hn ho r1 (b := 1) (a := 3) (y := 2) (by decide) (by decide) hb0 (xb2 := nI 1) rfl li3 li2
  have hxb : ix (nI 1) = 1 := nI_clamp (by decide)
  have hvb : vp_in (nI 1) 2 := vp_in_nI (by decide) (by decide)
  have hv6 : (B_T_changeFates fz ((u2 (u2 (u2 v 11 12 0) 11 9 0) 11 7 0) 11 0) 3 2 (u2 (u2 (u2 v 11 12 0) 11 9 0) 11 7 0)) 11 6 = sc 6 1 := by
    obtain ⟨hL, hT, hX, hS0, hM0, hD0, hR0, hA0, hW0, hG0, hU0, hE0, hS1, hM1, hD1, hR1, hA1, hW1, hG1, hU1, hE1⟩ := r2
    exact hS1.2.1
  have hm6 : (B_M_turnInto fz (nI 1) 3 2 (u2 (u2 (u2 m 44 1 0) 41 1 0) 39 1 0)) 38 1 = sc 6 1 := by
    obtain ⟨hL, hT, hX, hS0, hM0, hD0, hR0, hA0, hW0, hG0, hU0, hE0, hS1, hM1, hD1, hR1, hA1, hW1, hG1, hU1, hE1⟩ := r2
    obtain ⟨a0, a1, a2, a3, a4, a5, a6, a7, a8, a9, _⟩ := hS1
    exact a9
  obtain ⟨p3, p4, r3⟩ := r_send_1 fz r2 hl (5, 0, sc 6 1) (k := 5) (s := (B_T_changeFates fz ((u2 (u2 (u2 v 11 12 0) 11 9 0) 11 7 0) 11 0) 3 2 (u2 (u2 (u2 v 11 12 0) 11 9 0) 11 7 0)) 11 6) (x := 0) (k2 := 5) (s2 := (B_M_turnInto fz (nI 1) 3 2 (u2 (u2 (u2 m 44 1 0) 41 1 0) 39 1 0)) 38 1) (x2 := 0) li5 hv6 rfl li5 hm6 rfl
  refine ⟨⟨p1, p3, trivial⟩, ?_, ?_⟩
  · simp only [P_M_endIfEmpty_30, P_M_endIfEmpty_37, hxb, hvb, p2, p4, and_true]
  · simp only [B_M_endIfEmpty_30, B_M_endIfEmpty_37, hxb]
    exact r3
theorem r_endif_1 {n : Nat} {own blk ep ft : Nat → Nat} {sc : HH} {lk gr : Int32} {mp un : Nat → Nat → Bool} {q : Nat → List MSG} {wt : Nat → List Nat} {wx : Nat → Bool} {lg : Nat → List Nat} {us : Nat → Nat → Nat} {pv : Nat → Nat} {v m : HH} (fz : Nat) (hz : 400 ≤ fz) (hn : n ≤ 300) (ho : ∀ w, 1 ≤ w → w ≤ n → own w < 2 ∧ ft w < 5) (hR : Rel n own blk ep ft sc lk gr mp un q wt wx lg us pv (v) (m)) (hl : (q 1).length < 25) : ((∀ j, j < 32 → mp 1 j = false) → v 11 5 = 0 ∧ P_V_end fz 11 v ∧ P_M_endIfEmpty fz (nI 1) m ∧ Rel n own blk ep (cft own ft 1 3 2 n) (u2 (u2 (u2 sc 12 1 0) 9 1 0) 7 1 0) lk gr mp un (ug q 1 (q 1 ++ [(5, 0, sc 6 1)])) wt wx lg us pv (B_V_end fz 11 v) (B_M_endIfEmpty fz (nI 1) m)) ∧ ((¬ ∀ j, j < 32 → mp 1 j = false) → (¬ v 11 5 = 0) ∧ P_M_endIfEmpty fz (nI 1) m ∧ B_M_endIfEmpty fz (nI 1) m = m) := by
  have hxb : ix (nI 1) = 1 := nI_clamp (by decide)
  have hvb : vp_in (nI 1) 2 := vp_in_nI (by decide) (by decide)
  obtain ⟨e1, e2, e3⟩ := r_empty_1 fz hz hR
  refine ⟨fun hE => ?_, fun hE => ?_⟩
  · obtain ⟨p1, p2, r⟩ := r_end_1 fz hz hn ho hR hl
    have g : ¬ B_M_nothingInMap fz (nI 1) m = 0 := fun h => e3.mp h hE
    refine ⟨e1.mpr hE, p1, ?_, ?_⟩
    · simp only [P_M_endIfEmpty, hxb, hvb, e2, g, p2, not_false_eq_true, true_implies, false_implies, and_true, true_and]
    · simp only [B_M_endIfEmpty, hxb, g, if_false]
      exact r
  · have g : B_M_nothingInMap fz (nI 1) m = 0 := e3.mpr hE
    refine ⟨fun h => hE (e1.mp h), ?_, ?_⟩
    · simp only [P_M_endIfEmpty, e2, g, not_true_eq_false, true_implies, false_implies, and_true, true_and]
    · simp only [B_M_endIfEmpty, g, if_true]
theorem r_alone_1 {n : Nat} {own blk ep ft : Nat → Nat} {sc : HH} {lk gr : Int32} {mp un : Nat → Nat → Bool} {q : Nat → List MSG} {wt : Nat → List Nat} {wx : Nat → Bool} {lg : Nat → List Nat} {us : Nat → Nat → Nat} {pv : Nat → Nat} {v m : HH} (fz : Nat) (hn : n ≤ 300) (hR : Rel n own blk ep ft sc lk gr mp un q wt wx lg us pv (v) (m)) {w : Nat} (h1 : 1 ≤ w) (h2 : w ≤ n) (hw : own w = 1) (hk : blk w < 32) : P_V_endUpAlone fz (nI w) v ∧ P_M_alone fz (nI w) m ∧ ∃ (sc' : HH) (gr' : Int32), (Rel n own blk ep (ug ft w 3) (sc') lk (gr') (ug mp 1 (fun k => mp 1 k || decide (k = blk w))) un q wt wx lg us pv (B_V_endUpAlone fz (nI w) v) (B_M_alone fz (nI w) m)) ∧ ((sc' = sc ∧ gr' = gr) ∨ (gr' = gr + 1 ∧ sc' = u2 (u2 sc 7 1 (sc 6 1)) 6 1 (gr + 1))) := by
  have hxw : ix (nI w) = w := nI_clamp (by omega)
  have hvw : vp_in (nI w) 301 := vp_in_nI (by omega) (by decide)
  have hxb : ix (nI 1) = 1 := nI_clamp (by decide)
  have hvb : vp_in (nI 1) 2 := vp_in_nI (by decide) (by decide)
  have hxk : ix (nI (32 * 1 + blk w)) = 32 * 1 + blk w := nI_clamp (by omega)
  have hvk : vp_in (nI (32 * 1 + blk w)) 64 := vp_in_nI (by omega) (by decide)
  have r2 := r_mapset_1 (r_ft hR h1 h2 3 li3) hk
  have hno : B_V_nodeOf fz (nI 1) (u2 v 26 w 3) = 11 := nO_1 fz _
  obtain ⟨hL, hT, hX, hS0, hM0, hD0, hR0, hA0, hW0, hG0, hU0, hE0, hS1, hM1, hD1, hR1, hA1, hW1, hG1, hU1, hE1⟩ := hR
  obtain ⟨l1, l2, l3, l4⟩ := hL
  obtain ⟨a1, a2, a3, a4, a5⟩ := hT
  obtain ⟨⟨e1, e2, e3, e4, e5⟩, f1, f2, f3, f4⟩ := a5 w h1 h2
  rw [hw] at e1 f1
  obtain ⟨s0, s1, s2, s3, s4, s5, s6, s7, s8, s9, s10, _⟩ := hS1
  have e1' : (u2 v 26 w 3) 22 w = nI 1 := e1
  have e2' : (u2 v 26 w 3) 23 w = nI (blk w) := e2
  have e5' : (u2 v 26 w 3) 11 5 = v 11 5 := rfl
  have f2' : (u2 m 32 w 3) 29 w = nI (blk w) := f2
  have t7 : (u2 (u2 v 26 w 3) 11 5 (v 11 5 ||| ((1 : Int32) <<< (nI (blk w) &&& 31)))) 11 7 = sc 7 1 := s2
  have t6 : (u2 (u2 v 26 w 3) 11 5 (v 11 5 ||| ((1 : Int32) <<< (nI (blk w) &&& 31)))) 11 6 = sc 6 1 := s1
  have u7 : (u2 (u2 m 32 w 3) 35 (32 * 1 + blk w) 1) 39 1 = sc 7 1 := s10
  have u6 : (u2 (u2 m 32 w 3) 35 (32 * 1 + blk w) 1) 38 1 = sc 6 1 := s9
  by_cases h7 : sc 7 1 = 0
  · have t4 : (u2 (u2 (u2 v 26 w 3) 11 5 (v 11 5 ||| ((1 : Int32) <<< (nI (blk w) &&& 31)))) 11 7 (sc 6 1)) 0 4 = gr := l2
    have t4' : (u2 (u2 (u2 (u2 v 26 w 3) 11 5 (v 11 5 ||| ((1 : Int32) <<< (nI (blk w) &&& 31)))) 11 7 (sc 6 1)) 0 4 (gr + 1)) 0 4 = gr + 1 := rfl
    have u4 : (u2 (u2 (u2 m 32 w 3) 35 (32 * 1 + blk w) 1) 39 1 (sc 6 1)) 27 14 = gr := l4
    have u4' : (u2 (u2 (u2 (u2 m 32 w 3) 35 (32 * 1 + blk w) 1) 39 1 (sc 6 1)) 27 14 (gr + 1)) 27 14 = gr + 1 := rfl
    have r5 := r_set_6_1 (r_gr (r_set_7_1 r2 (sc 6 1)) (gr + 1)) (gr + 1)
    refine ⟨?_, ?_, _, _, ?_, Or.inr ⟨rfl, rfl⟩⟩
    · simp only [P_V_endUpAlone, P_V_endUpAlone_10, P_V_endUpAlone_44, P_V_endUpAlone_59, P_V_endUpAlone_69, P_V_nodeOf, hxw, hvw, implies_true, and_true, true_and]
    · simp only [P_M_alone, P_M_alone_14, P_M_alone_31, P_M_alone_52, P_M_alone_62, hxw, hvw, f1, f2', x32, hxk, hvk, hxb, hvb, implies_true, and_true, true_and]
    · simp only [B_V_endUpAlone, B_V_endUpAlone_10, B_V_endUpAlone_44, B_V_endUpAlone_59, B_V_endUpAlone_69, hxw, e1', hno, e2', e5', t7, t6, h7, t4, t4', B_M_alone, B_M_alone_14, B_M_alone_31, B_M_alone_52, B_M_alone_62, f1, f2', x32, hxk, hxb, u7, u6, u4, u4', if_true]
      exact r5
  · refine ⟨?_, ?_, _, _, ?_, Or.inl ⟨rfl, rfl⟩⟩
    · simp only [P_V_endUpAlone, P_V_endUpAlone_10, P_V_endUpAlone_44, P_V_endUpAlone_59, P_V_endUpAlone_69, P_V_nodeOf, hxw, hvw, implies_true, and_true, true_and]
    · simp only [P_M_alone, P_M_alone_14, P_M_alone_31, P_M_alone_52, P_M_alone_62, hxw, hvw, f1, f2', x32, hxk, hvk, hxb, hvb, implies_true, and_true, true_and]
    · simp only [B_V_endUpAlone, B_V_endUpAlone_10, B_V_endUpAlone_44, hxw, e1', hno, e2', e5', t7, h7, B_M_alone, B_M_alone_14, B_M_alone_31, f1, f2', x32, hxk, hxb, u7, if_false]
      exact r2
theorem r_leave_1 {n : Nat} {own blk ep ft : Nat → Nat} {sc : HH} {lk gr : Int32} {mp un : Nat → Nat → Bool} {q : Nat → List MSG} {wt : Nat → List Nat} {wx : Nat → Bool} {lg : Nat → List Nat} {us : Nat → Nat → Nat} {pv : Nat → Nat} {v m : HH} (fz : Nat) (hR : Rel n own blk ep ft sc lk gr mp un q wt wx lg us pv (v) (m)) : Rel n own blk ep ft (u2 (u2 sc 12 1 0) 13 1 0) lk gr mp (ug un 1 (fun _ => false)) (ug q 1 []) (ug wt 1 []) wx lg us pv (B_N_leaveLink fz 11 v) (u2 (u2 (u2 m 51 1 0) 44 1 0) 45 1 0) := by
  obtain ⟨hL, hT, hX, hS0, hM0, hD0, hR0, hA0, hW0, hG0, hU0, hE0, hS1, hM1, hD1, hR1, hA1, hW1, hG1, hU1, hE1⟩ := hR
  obtain ⟨a0, a1, a2, a3, a4, a5, a6, a7, a8, a9, a10, a11, a12, a13, a14, a15, a16⟩ := hS1
  obtain ⟨f, f1, f2, f3, f4, f5⟩ := hR1
  exact ⟨hL, hT, hX, hS0, hM0, hD0, hR0, hA0, hW0, hG0, hU0, hE0, ⟨a0, a1, a2, a3, a4, a5, a6, rfl, rfl, a9, a10, a11, a12, a13, a14, rfl, rfl⟩, hM1, hD1, ⟨f, f1, Nat.zero_le _, f3, li0, fun k a hk => by cases hk⟩, ⟨li0, fun k a hk => by cases hk⟩, ⟨Nat.zero_le _, li0, fun k a hk => by cases hk⟩, hG1, fun j hj => b_0 j, hE1⟩
theorem r_bloop (fz : Nat) (hz : 400 ≤ fz) {n : Nat} {own blk ep : Nat → Nat} {lk : Int32} {un : Nat → Nat → Bool} {q : Nat → List MSG} {wt : Nat → List Nat} {lg : Nat → List Nat} {us : Nat → Nat → Nat} {pv : Nat → Nat} (hn : n ≤ 300) (ho : ∀ w, 1 ≤ w → w ≤ n → own w < 2 ∧ blk w < 32) : ∀ (k fu w : Nat) (ft : Nat → Nat) (sc : HH) (gr : Int32) (mp : Nat → Nat → Bool) (wx : Nat → Bool) (v m : HH), Rel n own blk ep ft sc lk gr mp un q wt wx lg us pv (v) (m) → (∀ w, 1 ≤ w → w ≤ n → ft w < 5) → 1 ≤ w → w + k = n + 1 → k < fu → P_V_breakLink_21 fz fu (nI w) v ∧ P_M_breakLink_41 fz fu (nI w) m ∧ ∃ (ft' : Nat → Nat) (sc' : HH) (gr' : Int32) (mp' : Nat → Nat → Bool) (wx' : Nat → Bool), Rel n own blk ep (ft') (sc') lk (gr') (mp') un q wt (wx') lg us pv (B_V_breakLink_21 fz fu (nI w) v) (B_M_breakLink_41 fz fu (nI w) m) ∧ (∀ x, ft' x = if w ≤ x ∧ x ≤ n ∧ ft x = 1 then 3 else ft x) ∧ (∀ x, wx' x = if w ≤ x ∧ x ≤ n then false else wx x) ∧ (∀ c b, c ≠ 6 → c ≠ 7 → sc' c b = sc c b) ∧ (∀ b j, mp b j = true → mp' b j = true) ∧ (∀ g, gr = nI g → 1 ≤ g → g + k < 2 ^ 31 → (∃ g', gr' = nI g' ∧ 1 ≤ g' ∧ g' ≤ g + k) ∧ ∀ b, sc' 6 b = 0 → sc 6 b = 0) := by
  intro k
  induction k with
  | zero =>
    intro fu w ft sc gr mp wx v m hR hf5 h1 hk hf
    obtain ⟨fu, rfl⟩ : ∃ q, fu = q + 1 := ⟨fu - 1, by omega⟩
    have hR' := hR
    obtain ⟨hL, hT, hX, hS0, hM0, hD0, hR0, hA0, hW0, hG0, hU0, hE0, hS1, hM1, hD1, hR1, hA1, hW1, hG1, hU1, hE1⟩ := hR'
    have g1 : v 21 5 < nI w := by rw [hT.1]; exact nI_lt (by omega) (by omega)
    have g2 : m 27 0 < nI w := by rw [hT.2.1]; exact nI_lt (by omega) (by omega)
    refine ⟨by simp only [P_V_breakLink_21, g1, not_true_eq_false, true_implies, false_implies, and_true], by simp only [P_M_breakLink_41, g2, not_true_eq_false, true_implies, false_implies, and_true], ft, sc, gr, mp, wx, ?_, fun x => by rw [if_neg (by omega)], fun x => by rw [if_neg (by omega)], fun _ _ _ _ => rfl, fun _ _ h => h, fun g hg h1 _ => ⟨⟨g, hg, h1, by omega⟩, fun _ h => h⟩⟩
    simp only [B_V_breakLink_21, B_M_breakLink_41, g1, g2, if_true]
    exact hR
  | succ k ih =>
    intro fu w ft sc gr mp wx v m hR hf5 h1 hk hf
    obtain ⟨fu, rfl⟩ : ∃ q, fu = q + 1 := ⟨fu - 1, by omega⟩
    have rx := r_wx hR h1 false (x := 0) rfl
    have hR' := hR
    obtain ⟨hL, hT, hX, hS0, hM0, hD0, hR0, hA0, hW0, hG0, hU0, hE0, hS1, hM1, hD1, hR1, hA1, hW1, hG1, hU1, hE1⟩ := hR'
    have g1 : ¬ v 21 5 < nI w := by rw [hT.1]; exact nI_nlt (by omega) (by omega)
    have g2 : ¬ m 27 0 < nI w := by rw [hT.2.1]; exact nI_nlt (by omega) (by omega)
    have hxw : ix (nI w) = w := nI_clamp (by omega)
    have hvw : vp_in (nI w) 301 := vp_in_nI (by omega) (by decide)
    obtain ⟨⟨e1, e2, e3, e4, e5⟩, f1, f2, f3, f4⟩ := hT.2.2.2.2 w h1 (by omega)
    have f4' : (u2 m 33 w 0) 32 w = nI (ft w) := f4
    have k1 : nI (ft w) = (1 : Int32) ↔ ft w = 1 := by
      have := hf5 w h1 (by omega)
      rw [li1]
      exact nI_eq (by omega) (by omega)
    by_cases c : ft w = 1
    · have key : P_V_endUpAlone fz (nI w) v ∧ P_M_alone fz (nI w) (u2 m 33 w 0) ∧ ∃ (sc' : HH) (gr' : Int32) (mp' : Nat → Nat → Bool), (Rel n own blk ep (ug ft w 3) (sc') lk (gr') (mp') un q wt (ug wx w false) lg us pv (B_V_endUpAlone fz (nI w) v) (B_M_alone fz (nI w) (u2 m 33 w 0))) ∧ (∀ b j, mp b j = true → mp' b j = true) ∧ ((sc' = sc ∧ gr' = gr) ∨ ∃ b, (gr' = gr + 1 ∧ sc' = u2 (u2 sc 7 b (sc 6 b)) 6 b (gr + 1))) := by
        obtain ⟨o1, o2⟩ := ho w h1 (by omega)
        rcases (show own w = 0 ∨ own w = 1 by omega) with hw | hw
        · obtain ⟨p1, p2, sc', gr', r, hs⟩ := r_alone_0 fz hn rx h1 (by omega) hw o2
          refine ⟨p1, p2, sc', gr', _, r, fun b j hj => ?_, hs.imp id (fun x => ⟨0, x⟩)⟩
          unfold ug
          by_cases hb : b = 0
          · subst hb; simp [hj]
          · simp [hb, hj]
        · obtain ⟨p1, p2, sc', gr', r, hs⟩ := r_alone_1 fz hn rx h1 (by omega) hw o2
          refine ⟨p1, p2, sc', gr', _, r, fun b j hj => ?_, hs.imp id (fun x => ⟨1, x⟩)⟩
          unfold ug
          by_cases hb : b = 1
          · subst hb; simp [hj]
          · simp [hb, hj]
      obtain ⟨p1, p2, sc1, gr1, mp1, r1, hmp1, hsc1⟩ := key
      have hf5' : ∀ x, 1 ≤ x → x ≤ n → ug ft w 3 x < 5 := by
        intro x x1 x2
        unfold ug
        by_cases hx : x = w
        · rw [if_pos hx]
          decide
        · rw [if_neg hx]
          exact hf5 x x1 x2
      obtain ⟨p3, p4, ft2, sc2, gr2, mp2, wx2, r2, b1, b2, b3, b4, b5⟩ := ih fu (w + 1) (ug ft w 3) sc1 gr1 mp1 (ug wx w false) _ _ r1 hf5' (by omega) (by omega) (by omega)
      have cc : nI (ft w) = (1 : Int32) := k1.mpr c
      refine ⟨?_, ?_, ft2, sc2, gr2, mp2, wx2, ?_, fun x => ?_, fun x => ?_, fun c b h6 h7 => ?_, fun b j hj => b4 b j (hmp1 b j hj), fun g hg h1g hk2 => ?_⟩
      · simp only [P_V_breakLink_21, g1, hxw, hvw, e5, cc, p1, nI_1, p3, not_true_eq_false, not_false_eq_true, true_implies, false_implies, and_true, true_and]
      · simp only [P_M_breakLink_41, g2, hxw, hvw, f4', cc, p2, nI_1, p4, not_true_eq_false, not_false_eq_true, true_implies, false_implies, and_true, true_and]
      · simp only [B_V_breakLink_21, B_M_breakLink_41, g1, g2, hxw, e5, f4', cc, nI_1, if_true, if_false]
        exact r2
      · rw [b1 x]
        unfold ug
        by_cases hx : x = w
        · subst hx
          rw [if_neg (by omega), if_pos rfl, if_pos ⟨Nat.le_refl _, by omega, c⟩]
        · have e : (w + 1 ≤ x) ↔ (w ≤ x) := by omega
          simp only [hx, if_false, e]
      · rw [b2 x]
        unfold ug
        by_cases hx : x = w
        · subst hx
          rw [if_neg (by omega), if_pos rfl, if_pos (by omega)]
        · have e : (w + 1 ≤ x) ↔ (w ≤ x) := by omega
          simp only [hx, if_false, e]
      · rw [b3 c b h6 h7]
        rcases hsc1 with ⟨hs, _⟩ | ⟨b', _, hs⟩
        · rw [hs]
        · rw [hs]
          unfold u2
          rw [if_neg (fun r => h6 r.1), if_neg (fun r => h7 r.1)]
      · rcases hsc1 with ⟨hs, hg1⟩ | ⟨b', hg1, hs⟩
        · obtain ⟨⟨g', q1, q2, q3⟩, q4⟩ := b5 g (by rw [hg1]; exact hg) h1g (by omega)
          refine ⟨⟨g', q1, q2, by omega⟩, fun b hb => ?_⟩
          have := q4 b hb
          rw [hs] at this
          exact this
        · obtain ⟨⟨g', q1, q2, q3⟩, q4⟩ := b5 (g + 1) (by rw [hg1, hg, nI_1]) (by omega) (by omega)
          refine ⟨⟨g', q1, q2, by omega⟩, fun b hb => ?_⟩
          have h0 := q4 b hb
          rw [hs, hg, nI_1] at h0
          unfold u2 at h0
          by_cases hbb : b = b'
          · rw [if_pos ⟨rfl, hbb⟩] at h0
            exact absurd h0 (nI_ne0 (by omega) (by omega))
          · rw [if_neg (fun r => hbb r.2), if_neg (fun r => hbb r.2)] at h0
            exact h0
    · obtain ⟨p3, p4, ft2, sc2, gr2, mp2, wx2, r2, b1, b2, b3, b4, b5⟩ := ih fu (w + 1) ft sc gr mp (ug wx w false) _ _ rx hf5 (by omega) (by omega) (by omega)
      have cc : ¬ nI (ft w) = (1 : Int32) := fun r => c (k1.mp r)
      refine ⟨?_, ?_, ft2, sc2, gr2, mp2, wx2, ?_, fun x => ?_, fun x => ?_, b3, b4, fun g hg h1g hk2 => ?_⟩
      · simp only [P_V_breakLink_21, g1, hxw, hvw, e5, cc, nI_1, p3, not_true_eq_false, not_false_eq_true, true_implies, false_implies, and_true, true_and]
      · simp only [P_M_breakLink_41, g2, hxw, hvw, f4', cc, nI_1, p4, not_true_eq_false, not_false_eq_true, true_implies, false_implies, and_true, true_and]
      · simp only [B_V_breakLink_21, B_M_breakLink_41, g1, g2, hxw, e5, f4', cc, nI_1, if_false]
        exact r2
      · rw [b1 x]
        by_cases hx : x = w
        · subst hx
          rw [if_neg (by omega), if_neg (fun r => c r.2.2)]
        · have e : (w + 1 ≤ x) ↔ (w ≤ x) := by omega
          simp only [e]
      · rw [b2 x]
        unfold ug
        by_cases hx : x = w
        · subst hx
          rw [if_neg (by omega), if_pos rfl, if_pos (by omega)]
        · have e : (w + 1 ≤ x) ↔ (w ≤ x) := by omega
          simp only [hx, if_false, e]
      · obtain ⟨⟨g', q1, q2, q3⟩, q4⟩ := b5 g hg h1g (by omega)
        exact ⟨⟨g', q1, q2, by omega⟩, q4⟩
theorem r_break {n : Nat} {own blk ep ft : Nat → Nat} {sc : HH} {lk gr : Int32} {mp un : Nat → Nat → Bool} {q : Nat → List MSG} {wt : Nat → List Nat} {wx : Nat → Bool} {lg : Nat → List Nat} {us : Nat → Nat → Nat} {pv : Nat → Nat} {v m : HH} (fz : Nat) (hz : 400 ≤ fz) (hn : n ≤ 300) (ho : ∀ w, 1 ≤ w → w ≤ n → own w < 2 ∧ blk w < 32) (hf5 : ∀ w, 1 ≤ w → w ≤ n → ft w < 5) (hR : Rel n own blk ep ft sc lk gr mp un q wt wx lg us pv (v) (m)) : P_V_breakLink fz v ∧ P_M_breakLink fz m ∧ ∃ (ft' : Nat → Nat) (sc' : HH) (gr' : Int32) (mp' : Nat → Nat → Bool) (wx' : Nat → Bool), Rel n own blk ep (ft') (sc') (0) (gr') (mp') (ug (ug un 0 (fun _ => false)) 1 (fun _ => false)) (ug (ug q 0 []) 1 []) (ug (ug wt 0 []) 1 []) (wx') lg us pv (B_V_breakLink fz v) (B_M_breakLink fz m) ∧ (∀ x, ft' x = if 1 ≤ x ∧ x ≤ n ∧ ft x = 1 then 3 else ft x) ∧ (∀ x, wx' x = if 1 ≤ x ∧ x ≤ n then false else wx x) ∧ (∀ c b, c ≠ 6 → c ≠ 7 → sc' c b = (u2 (u2 (u2 (u2 sc 12 0 0) 13 0 0) 12 1 0) 13 1 0) c b) ∧ (∀ b j, mp b j = true → mp' b j = true) ∧ (∀ g, gr = nI g → 1 ≤ g → g + n < 2 ^ 31 → (∃ g', gr' = nI g' ∧ 1 ≤ g' ∧ g' ≤ g + n) ∧ ∀ b, sc' 6 b = 0 → sc 6 b = 0) := by
  have r1 := r_leave_1 fz (r_leave_0 fz (r_lk hR 0))
  obtain ⟨p1, p2, ft', sc', gr', mp', wx', r, b1, b2, b3, b4, b5⟩ := r_bloop fz hz hn ho n fz 1 _ _ _ _ _ _ _ r1 hf5 (by omega) (by omega) (by omega)
  obtain ⟨fy, rfl⟩ : ∃ y, fz = y + 3 := ⟨fz - 3, by omega⟩
  rw [← li1] at p1 p2 r
  have z0 : ix (0 : Int32) = 0 := by decide
  have z1 : ix ((0 : Int32) + 1) = 1 := by decide
  have w0 : vp_in (0 : Int32) 2 := by rw [li0]; exact vp_in_nI (by decide) (by decide)
  have w1 : vp_in ((0 : Int32) + 1) 2 := by rw [show (0 : Int32) + 1 = nI 1 by decide +kernel]; exact vp_in_nI (by decide) (by decide)
  have g0 : ¬ (2 : Int32) ≤ 0 := by decide
  have g1 : ¬ (2 : Int32) ≤ 0 + 1 := by decide
  have g2 : (2 : Int32) ≤ 0 + 1 + 1 := by decide
  refine ⟨⟨trivial, trivial, p1⟩, ?_, ft', sc', gr', mp', wx', ?_, b1, b2, b3, b4, b5⟩
  · simp only [P_M_breakLink, P_M_breakLink_7, g0, g1, g2, z0, z1, w0, w1, not_true_eq_false, not_false_eq_true, true_implies, false_implies, and_true, true_and]
    exact p2
  · simp only [B_V_breakLink, B_V_breakLink_5, B_V_breakLink_12, B_V_breakLink_19, B_M_breakLink, B_M_breakLink_7, g0, g1, g2, z0, z1, if_true, if_false]
    exact r
end
section
def fwd (l : List MSG) : List (Nat × Nat) := l.filterMap (fun a => if a.1 = 1 then some (0, a.2.1) else if a.1 = 3 then some (1, a.2.1) else none)
def bck (l : List MSG) : List (Nat × Nat) := l.filterMap (fun a => if a.1 = 2 then some (0, a.2.1) else if a.1 = 4 then some (1, a.2.1) else none)
def dat (l : List MSG) : List Nat := l.filterMap (fun a => if a.1 = 1 then some a.2.1 else none)
def wmp (l : List Nat) : List (Nat × Nat) := l.map (fun w => (0, w))
def PL (qo : List MSG) (wo : List Nat) (qb : List MSG) : List (Nat × Nat) := bck qo ++ (wmp wo ++ fwd qb)
theorem fwd_app (l l' : List MSG) : fwd (l ++ l') = fwd l ++ fwd l' := List.filterMap_append
theorem bck_app (l l' : List MSG) : bck (l ++ l') = bck l ++ bck l' := List.filterMap_append
theorem dat_app (l l' : List MSG) : dat (l ++ l') = dat l ++ dat l' := List.filterMap_append
abbrev oR (blk : Nat → Nat) (x y : Nat × Nat) : Prop := ¬ (x.1 = 0 ∧ y.1 = 1 ∧ blk x.2 = y.2)
def cnP (n : Nat) (own ft : Nat → Nat) (b : Nat) : Nat := cn (fun w => decide (own w = b ∧ ft w = 1)) 1 n
def IN (n : Nat) (own blk ft : Nat → Nat) (b : Nat) (src : Int32) (mpb unb : Nat → Bool) (L : List (Nat × Nat)) : Prop :=
  L.Nodup ∧ (∀ x, x ∈ L → x.1 < 2) ∧ (∀ w, (0, w) ∈ L ↔ (1 ≤ w ∧ w ≤ n) ∧ own w = b ∧ ft w = 1) ∧ (∀ j, (1, j) ∈ L → j < 32 ∧ mpb j = true ∧ src ≠ 0) ∧ L.Pairwise (oR blk) ∧ (L.filter (fun x => x.1 == 1)).length ≤ 4 ∧ (∀ j, j < 32 → (unb j = true ↔ (1, j) ∈ L)) ∧ cnP n own ft b ≤ 8
def IQ (l : List MSG) (s0 s1 : Int32) : Prop := (∀ a, a ∈ l → 1 ≤ a.1 ∧ a.1 ≤ 5) ∧ (∀ a, a ∈ l → a.1 = 5 → a.2.2 ≠ 0 ∧ s0 = 0 ∧ s1 = 0) ∧ (l.filter (fun a => a.1 == 5)).length ≤ 1
def IR (wo : List Nat) (qb : List MSG) : Prop := (wo ++ dat qb).Pairwise (fun a b => a < b)
section LINE
variable {n : Nat} {own blk ft : Nat → Nat} {b : Nat} {src : Int32} {mpb unb : Nat → Bool} {L : List (Nat × Nat)}
theorem IN.w0 (h : IN n own blk ft b src mpb unb L) : cnP n own ft b = (L.filter (fun x => x.1 == 0)).length := by
  obtain ⟨h1, h2, h3, -⟩ := h
  have e : ((L.filter (fun x => x.1 == 0)).map (fun x => x.2)).length = (L.filter (fun x => x.1 == 0)).length := List.length_map _
  rw [← e]
  apply cn_len
  · rw [List.nodup_iff_pairwise_ne, List.pairwise_map]
    refine List.Pairwise.imp_of_mem ?_ (List.Pairwise.filter _ h1)
    intro x y hx hy hxy he
    have hx0 : x.1 = 0 := by simpa using (List.mem_filter.mp hx).2
    have hy0 : y.1 = 0 := by simpa using (List.mem_filter.mp hy).2
    exact hxy (Prod.ext (hx0.trans hy0.symm) he)
  · intro w
    rw [List.mem_map]
    constructor
    · rintro ⟨x, hx, rfl⟩
      obtain ⟨hx1, hx2⟩ := List.mem_filter.mp hx
      have hx0 : x.1 = 0 := by simpa using hx2
      have := (h3 x.2).mp (by rw [← hx0]; exact hx1)
      exact ⟨⟨this.1.1, by omega⟩, by simpa using this.2⟩
    · rintro ⟨⟨g1, g2⟩, g3⟩
      exact ⟨(0, w), List.mem_filter.mpr ⟨(h3 w).mpr ⟨⟨g1, by omega⟩, by simpa using g3⟩, rfl⟩, rfl⟩
theorem IN.len (h : IN n own blk ft b src mpb unb L) : L.length ≤ 12 ∧ (L.filter (fun x => x.1 == 0)).length ≤ 8 := by
  have h0 := h.w0
  obtain ⟨h1, h2, h3, h4, h5, h6, h7, h8⟩ := h
  have e : L.length = (L.filter (fun x => x.1 == 1)).length + (L.filter (fun x => x.1 == 0)).length := by
    clear h1 h3 h4 h5 h6 h7 h8 h0
    induction L with
    | nil => rfl
    | cons x L ih =>
      have ih := ih (fun y hy => h2 y (List.mem_cons_of_mem _ hy))
      have hx := h2 x List.mem_cons_self
      rw [List.length_cons, List.filter_cons, List.filter_cons]
      rcases (show x.1 = 0 ∨ x.1 = 1 by omega) with e | e <;> simp [e] <;> omega
  exact ⟨by omega, by omega⟩
theorem qlen {l : List MSG} (h : ∀ a, a ∈ l → 1 ≤ a.1 ∧ a.1 ≤ 5) : l.length = (fwd l).length + (bck l).length + (l.filter (fun a => a.1 == 5)).length := by
  induction l with
  | nil => rfl
  | cons a l ih =>
    have ih := ih (fun y hy => h y (List.mem_cons_of_mem _ hy))
    have ha := h a List.mem_cons_self
    unfold fwd bck at ih ⊢
    rw [List.length_cons, List.filter_cons, List.filterMap_cons, List.filterMap_cons]
    rcases (show a.1 = 1 ∨ a.1 = 2 ∨ a.1 = 3 ∨ a.1 = 4 ∨ a.1 = 5 by omega) with e | e | e | e | e <;> simp [e] <;> omega
theorem IN.append0 (h : IN n own blk ft b src mpb unb L) (hc : cnP n own ft b < 8) (j : Nat) : IN (n + 1) (ug own (n + 1) b) (ug blk (n + 1) j) (ug ft (n + 1) 1) b src mpb unb (L ++ [(0, n + 1)]) := by
  obtain ⟨h1, h2, h3, h4, h5, h6, h7, h8⟩ := h
  have hw : ∀ w, (0, w) ∈ L → w ≤ n := fun w hw => ((h3 w).mp hw).1.2
  refine ⟨?_, ?_, ?_, ?_, ?_, ?_, ?_, ?_⟩
  · rw [List.nodup_append]
    refine ⟨h1, by simp, ?_⟩
    intro x hx y hy e
    rw [List.mem_singleton] at hy
    subst hy
    subst e
    have := hw _ hx
    omega
  · intro x hx
    rcases List.mem_append.mp hx with hx | hx
    · exact h2 x hx
    · rw [List.mem_singleton.mp hx]
      exact (by decide : (0 : Nat) < 2)
  · intro w
    rw [List.mem_append, List.mem_singleton]
    unfold ug
    by_cases e : w = n + 1
    · subst e
      simp
    · simp only [e, if_false]
      constructor
      · rintro (hx | hx)
        · have := (h3 w).mp hx
          exact ⟨⟨this.1.1, by omega⟩, this.2⟩
        · exact absurd (Prod.mk.inj hx).2 e
      · rintro ⟨⟨g1, g2⟩, g3⟩
        exact Or.inl ((h3 w).mpr ⟨⟨g1, by omega⟩, g3⟩)
  · intro i hi
    rcases List.mem_append.mp hi with hi | hi
    · exact h4 i hi
    · exact absurd (Prod.mk.inj (List.mem_singleton.mp hi)).1 (by decide)
  · rw [List.pairwise_append]
    refine ⟨?_, by simp, ?_⟩
    · refine List.Pairwise.imp_of_mem ?_ h5
      intro x y hx hy hxy hh
      refine hxy ⟨hh.1, hh.2.1, ?_⟩
      have := hw x.2 (by rw [← hh.1]; exact hx)
      have e : ug blk (n + 1) j x.2 = blk x.2 := if_neg (by omega)
      rw [← e]
      exact hh.2.2
    · intro x hx y hy hh
      rw [List.mem_singleton.mp hy] at hh
      exact absurd hh.2.1 (by decide : ¬ (0 : Nat) = 1)
  · rw [List.filter_append]
    simpa using h6
  · intro i hi
    rw [h7 i hi, List.mem_append, List.mem_singleton]
    exact ⟨Or.inl, fun r => r.elim id (fun r => absurd (Prod.mk.inj r).1 (by decide))⟩
  · unfold cnP at hc ⊢
    rw [cn_snoc]
    have e : cn (fun w => decide (ug own (n + 1) b w = b ∧ ug ft (n + 1) 1 w = 1)) 1 n = cn (fun w => decide (own w = b ∧ ft w = 1)) 1 n := by
      apply cn_congr
      intro i g1 g2
      have e : ¬ i = n + 1 := by omega
      simp [ug, e]
    rw [e]
    cases decide (ug own (n + 1) b (1 + n) = b ∧ ug ft (n + 1) 1 (1 + n) = 1) <;> simp only [cond_true, cond_false] <;> omega
theorem IN.other (h : IN n own blk ft b src mpb unb L) {c j x : Nat} (hb : c ≠ b) : IN (n + 1) (ug own (n + 1) c) (ug blk (n + 1) j) (ug ft (n + 1) x) b src mpb unb L := by
  obtain ⟨h1, h2, h3, h4, h5, h6, h7, h8⟩ := h
  have hw : ∀ w, (0, w) ∈ L → w ≤ n := fun w hw => ((h3 w).mp hw).1.2
  refine ⟨h1, h2, ?_, h4, ?_, h6, h7, ?_⟩
  · intro w
    unfold ug
    by_cases e : w = n + 1
    · subst e
      simp only [if_true]
      constructor
      · intro hx
        have := hw _ hx
        omega
      · rintro ⟨_, g, _⟩
        exact absurd g hb
    · simp only [e, if_false]
      rw [h3 w]
      constructor
      · rintro ⟨⟨g1, g2⟩, g3⟩
        exact ⟨⟨g1, by omega⟩, g3⟩
      · rintro ⟨⟨g1, g2⟩, g3⟩
        exact ⟨⟨g1, by omega⟩, g3⟩
  · refine List.Pairwise.imp_of_mem ?_ h5
    intro x' y hx hy hxy hh
    refine hxy ⟨hh.1, hh.2.1, ?_⟩
    have := hw x'.2 (by rw [← hh.1]; exact hx)
    have e : ug blk (n + 1) j x'.2 = blk x'.2 := if_neg (by omega)
    rw [← e]
    exact hh.2.2
  · unfold cnP at h8 ⊢
    rw [cn_snoc]
    have e : cn (fun w => decide (ug own (n + 1) c w = b ∧ ug ft (n + 1) x w = 1)) 1 n = cn (fun w => decide (own w = b ∧ ft w = 1)) 1 n := by
      apply cn_congr
      intro i g1 g2
      have e : ¬ i = n + 1 := by omega
      simp [ug, e]
    have e2 : decide (ug own (n + 1) c (1 + n) = b ∧ ug ft (n + 1) x (1 + n) = 1) = false := by
      have e3 : ug own (n + 1) c (1 + n) = c := if_pos (by omega)
      rw [e3]
      simp [hb]
    rw [e, e2]
    exact h8
theorem IN.append1 (h : IN n own blk ft b src mpb unb L) {j : Nat} (hj : j < 32) (hm : mpb j = true) (hs : src ≠ 0) (hu : unb j = false) (hp : ∀ w, 1 ≤ w → w ≤ n → own w = b → ft w = 1 → blk w ≠ j) (hc : (L.filter (fun x => x.1 == 1)).length < 4) : IN n own blk ft b src mpb (fun k => unb k || decide (k = j)) (L ++ [(1, j)]) := by
  obtain ⟨h1, h2, h3, h4, h5, h6, h7, h8⟩ := h
  have hn : (1, j) ∉ L := fun r => by
    rw [(h7 j hj).mpr r] at hu
    cases hu
  refine ⟨?_, ?_, ?_, ?_, ?_, ?_, ?_, h8⟩
  · rw [List.nodup_append]
    refine ⟨h1, by simp, ?_⟩
    intro x hx y hy e
    rw [List.mem_singleton] at hy
    subst hy
    subst e
    exact hn hx
  · intro x hx
    rcases List.mem_append.mp hx with hx | hx
    · exact h2 x hx
    · rw [List.mem_singleton.mp hx]
      exact (by decide : (1 : Nat) < 2)
  · intro w
    rw [List.mem_append, List.mem_singleton, ← h3 w]
    exact ⟨fun r => r.elim id (fun r => absurd (Prod.mk.inj r).1 (by decide)), Or.inl⟩
  · intro i hi
    rcases List.mem_append.mp hi with hi | hi
    · exact h4 i hi
    · rw [(Prod.mk.inj (List.mem_singleton.mp hi)).2]
      exact ⟨hj, hm, hs⟩
  · rw [List.pairwise_append]
    refine ⟨h5, by simp, ?_⟩
    intro x hx y hy hh
    rw [List.mem_singleton.mp hy] at hh
    have hx' : (0, x.2) ∈ L := by
      rw [← hh.1]
      exact hx
    have := (h3 x.2).mp hx'
    exact hp x.2 this.1.1 this.1.2 this.2.1 this.2.2 hh.2.2
  · rw [List.filter_append, List.length_append]
    have : (List.filter (fun x : Nat × Nat => x.1 == 1) [(1, j)]).length = 1 := rfl
    omega
  · intro i hi
    rw [List.mem_append, List.mem_singleton, Bool.or_eq_true, h7 i hi]
    constructor
    · rintro (r | r)
      · exact Or.inl r
      · exact Or.inr (by rw [of_decide_eq_true r])
    · rintro (r | r)
      · exact Or.inl r
      · exact Or.inr (decide_eq_true (Prod.mk.inj r).2)
theorem IN.pop0 {w : Nat} (h : IN n own blk ft b src mpb unb ((0, w) :: L)) {mp' : Nat → Bool} (hm : ∀ j, src ≠ 0 → j ≠ blk w → mpb j = true → mp' j = true) : IN n own blk (ug ft w 2) b src mp' unb L := by
  obtain ⟨h1, h2, h3, h4, h5, h6, h7, h8⟩ := h
  obtain ⟨hn, h1⟩ := List.nodup_cons.mp h1
  obtain ⟨hr, h5⟩ := List.pairwise_cons.mp h5
  refine ⟨h1, fun x hx => h2 x (List.mem_cons_of_mem _ hx), ?_, ?_, h5, ?_, ?_, ?_⟩
  · intro w'
    unfold ug
    by_cases e : w' = w
    · subst e
      simp [hn]
    · have := h3 w'
      rw [List.mem_cons] at this
      simp only [e, if_false]
      rw [← this]
      exact ⟨Or.inr, fun r => r.elim (fun r => absurd (Prod.mk.inj r).2 e) id⟩
  · intro j hj
    obtain ⟨g1, g2, g3⟩ := h4 j (List.mem_cons_of_mem _ hj)
    refine ⟨g1, hm j g3 (fun e => ?_) g2, g3⟩
    exact hr (1, j) hj ⟨rfl, rfl, e.symm⟩
  · rw [List.filter_cons] at h6
    simpa using h6
  · intro j hj
    rw [h7 j hj, List.mem_cons]
    exact ⟨fun r => r.elim (fun r => absurd (Prod.mk.inj r).1 (by decide)) id, Or.inr⟩
  · refine Nat.le_trans (cn_mono n 1 ?_) h8
    intro i _ _ hi
    have := of_decide_eq_true hi
    unfold ug at this
    by_cases e : i = w
    · rw [if_pos e] at this
      exact absurd this.2 (by decide)
    · rw [if_neg e] at this
      exact decide_eq_true this
theorem IN.pop1 {j : Nat} (h : IN n own blk ft b src mpb unb ((1, j) :: L)) {mp' : Nat → Bool} (hm : ∀ i, i ≠ j → mpb i = true → mp' i = true) : IN n own blk ft b src mp' (fun k => unb k && !decide (k = j)) L := by
  obtain ⟨h1, h2, h3, h4, h5, h6, h7, h8⟩ := h
  obtain ⟨hn, h1⟩ := List.nodup_cons.mp h1
  obtain ⟨hr, h5⟩ := List.pairwise_cons.mp h5
  refine ⟨h1, fun x hx => h2 x (List.mem_cons_of_mem _ hx), ?_, ?_, h5, ?_, ?_, h8⟩
  · intro w
    rw [← h3 w, List.mem_cons]
    exact ⟨Or.inr, fun r => r.elim (fun r => absurd (Prod.mk.inj r).1 (by decide)) id⟩
  · intro i hi
    obtain ⟨g1, g2, g3⟩ := h4 i (List.mem_cons_of_mem _ hi)
    exact ⟨g1, hm i (fun e => hn (by rw [← e]; exact hi)) g2, g3⟩
  · have e : (List.filter (fun x : Nat × Nat => x.1 == 1) ((1, j) :: L)).length = (L.filter (fun x => x.1 == 1)).length + 1 := rfl
    omega
  · intro i hi
    have := h7 i hi
    rw [List.mem_cons] at this
    by_cases e : i = j
    · subst e
      simp [hn]
    · have e2 : ¬ ((1, i) = ((1, j) : Nat × Nat)) := fun r => e (Prod.mk.inj r).2
      simp only [e, e2, false_or, decide_false, Bool.not_false, Bool.and_true] at this ⊢
      exact this
theorem IN.perm {L' : List (Nat × Nat)} (h : IN n own blk ft b src mpb unb L) (hp : L.Perm L') (ho : L'.Pairwise (oR blk)) : IN n own blk ft b src mpb unb L' := by
  obtain ⟨h1, h2, h3, h4, h5, h6, h7, h8⟩ := h
  refine ⟨hp.nodup h1, fun x hx => h2 x (hp.mem_iff.mpr hx), fun w => by rw [← hp.mem_iff]; exact h3 w, fun j hj => h4 j (hp.mem_iff.mpr hj), ho, ?_, fun j hj => by rw [← hp.mem_iff]; exact h7 j hj, h8⟩
  rw [← (hp.filter _).length_eq]
  exact h6
theorem IN.fates (h : IN n own blk ft b src mpb unb L) {ft' : Nat → Nat} (hf : ∀ w, 1 ≤ w → w ≤ n → own w = b → (ft' w = 1 ↔ ft w = 1)) : IN n own blk ft' b src mpb unb L := by
  obtain ⟨h1, h2, h3, h4, h5, h6, h7, h8⟩ := h
  refine ⟨h1, h2, ?_, h4, h5, h6, h7, ?_⟩
  · intro w
    rw [h3 w]
    constructor
    · rintro ⟨g1, g2, g3⟩
      exact ⟨g1, g2, (hf w g1.1 g1.2 g2).mpr g3⟩
    · rintro ⟨g1, g2, g3⟩
      exact ⟨g1, g2, (hf w g1.1 g1.2 g2).mp g3⟩
  · refine Nat.le_trans (cn_mono n 1 ?_) h8
    intro i g1 g2 hi
    have := of_decide_eq_true hi
    exact decide_eq_true ⟨this.1, (hf i g1 (by omega) this.1).mp this.2⟩
theorem IN.marks (h : IN n own blk ft b src mpb unb L) {src' : Int32} {mp' : Nat → Bool} (hm : ∀ j, (1, j) ∈ L → mp' j = true ∧ src' ≠ 0) : IN n own blk ft b src' mp' unb L := by
  obtain ⟨h1, h2, h3, h4, h5, h6, h7, h8⟩ := h
  exact ⟨h1, h2, h3, fun j hj => ⟨(h4 j hj).1, hm j hj⟩, h5, h6, h7, h8⟩
theorem IN.nil (hf : ∀ w, 1 ≤ w → w ≤ n → own w = b → ft w ≠ 1) (hu : ∀ j, j < 32 → unb j = false) : IN n own blk ft b src mpb unb [] := by
  refine ⟨List.nodup_nil, fun x hx => (by cases hx), ?_, fun j hj => (by cases hj), List.Pairwise.nil, by decide, ?_, ?_⟩
  · intro w
    exact ⟨fun r => (by cases r), fun r => absurd r.2.2 (hf w r.1.1 r.1.2 r.2.1)⟩
  · intro j hj
    rw [hu j hj]
    exact ⟨fun r => (by cases r), fun r => by cases r⟩
  · have : cnP n own ft b = 0 := by
      refine Nat.eq_zero_of_not_pos (fun r => ?_)
      obtain ⟨i, g1, g2, g3⟩ := (cn_pos n 1).mp r
      have := of_decide_eq_true g3
      exact hf i g1 (by omega) this.1 this.2
    omega
theorem store_perm {A F : List (Nat × Nat)} {W : List Nat} {k w : Nat} (hk : W[k]? = some w) : (A ++ (wmp W ++ F)).Perm ((A ++ [(0, w)]) ++ (wmp (W.eraseIdx k) ++ F)) := by
  have e : W.Perm (w :: W.eraseIdx k) := by
    induction W generalizing k with
    | nil => cases hk
    | cons x W ih =>
      cases k with
      | zero =>
        have : x = w := by simpa using hk
        subst this
        exact List.Perm.refl _
      | succ k =>
        have := ih (k := k) (by simpa using hk)
        exact (List.Perm.cons x this).trans (List.Perm.swap w x _)
  have e2 : (wmp W).Perm ((0, w) :: wmp (W.eraseIdx k)) := e.map (fun w => (0, w))
  rw [List.append_assoc]
  exact List.Perm.append_left A (List.Perm.append_right F e2)
theorem store_order {A F : List (Nat × Nat)} {W : List Nat} {k w : Nat} (hk : W[k]? = some w) (h : (A ++ (wmp W ++ F)).Pairwise (oR blk)) : ((A ++ [(0, w)]) ++ (wmp (W.eraseIdx k) ++ F)).Pairwise (oR blk) := by
  have hw : w ∈ W := List.mem_of_getElem? hk
  have hsub : ∀ x, x ∈ wmp (W.eraseIdx k) → x ∈ wmp W := fun x hx => by
    obtain ⟨y, hy, rfl⟩ := List.mem_map.mp hx
    exact List.mem_map.mpr ⟨y, List.mem_of_mem_eraseIdx hy, rfl⟩
  obtain ⟨p1, p2, p3⟩ := List.pairwise_append.mp h
  obtain ⟨p4, p5, p6⟩ := List.pairwise_append.mp p2
  have w0 : ∀ x, x ∈ wmp W → x.1 = 0 := fun x hx => by
    obtain ⟨y, hy, rfl⟩ := List.mem_map.mp hx
    rfl
  rw [List.pairwise_append, List.pairwise_append, List.pairwise_append]
  refine ⟨⟨p1, by simp, ?_⟩, ⟨?_, p5, fun x hx y hy => p6 x (hsub x hx) y hy⟩, ?_⟩
  · intro x hx y hy
    rw [List.mem_singleton.mp hy]
    exact fun r => absurd r.2.1 (by decide : ¬ (0 : Nat) = 1)
  · refine List.Pairwise.sublist ?_ p4
    exact (List.eraseIdx_sublist W k).map _
  · intro x hx y hy
    rcases List.mem_append.mp hx with hx | hx
    · rcases List.mem_append.mp hy with hy | hy
      · exact p3 x hx y (List.mem_append_left _ (hsub y hy))
      · exact p3 x hx y (List.mem_append_right _ hy)
    · rw [List.mem_singleton.mp hx]
      rcases List.mem_append.mp hy with hy | hy
      · intro r
        have := w0 y (hsub y hy)
        rw [this] at r
        exact absurd r.2.1 (by decide)
      · exact p6 (0, w) (List.mem_map.mpr ⟨w, hw, rfl⟩) y hy
theorem copy_perm {A F : List (Nat × Nat)} {W : List Nat} {j : Nat} : (A ++ (wmp W ++ (1, j) :: F)).Perm ((A ++ [(1, j)]) ++ (wmp W ++ F)) := by
  rw [List.append_assoc]
  exact List.Perm.append_left A List.perm_middle
theorem copy_order {A F : List (Nat × Nat)} {W : List Nat} {j : Nat} (h : (A ++ (wmp W ++ (1, j) :: F)).Pairwise (oR blk)) : ((A ++ [(1, j)]) ++ (wmp W ++ F)).Pairwise (oR blk) := by
  obtain ⟨p1, p2, p3⟩ := List.pairwise_append.mp h
  obtain ⟨p4, p5, p6⟩ := List.pairwise_append.mp p2
  obtain ⟨p7, p8⟩ := List.pairwise_cons.mp p5
  rw [List.pairwise_append, List.pairwise_append, List.pairwise_append]
  refine ⟨⟨p1, by simp, ?_⟩, ⟨p4, p8, fun x hx y hy => p6 x hx y (List.mem_cons_of_mem _ hy)⟩, ?_⟩
  · intro x hx y hy
    rw [List.mem_singleton.mp hy]
    exact p3 x hx (1, j) (List.mem_append_right _ List.mem_cons_self)
  · intro x hx y hy
    rcases List.mem_append.mp hx with hx | hx
    · rcases List.mem_append.mp hy with hy | hy
      · exact p3 x hx y (List.mem_append_left _ hy)
      · exact p3 x hx y (List.mem_append_right _ (List.mem_cons_of_mem _ hy))
    · rw [List.mem_singleton.mp hx]
      exact fun r => absurd r.1 (by decide : ¬ (1 : Nat) = 0)
end LINE
theorem q25 {l : List MSG} {s0 s1 : Int32} (h : IQ l s0 s1) (h1 : (fwd l).length ≤ 12) (h2 : (bck l).length ≤ 12) : l.length ≤ 25 := by
  have := qlen h.1
  have := h.2.2
  omega
end
section
def IW (n : Nat) (own : Nat → Nat) (w0 w1 : List Nat) (wx : Nat → Bool) : Prop := ∀ w, 1 ≤ w → w ≤ 300 → (wx w = true ↔ (w ≤ n ∧ ((own w = 1 ∧ w ∈ w0) ∨ (own w = 0 ∧ w ∈ w1))))
def IC (a60 a61 a80 a81 a90 a91 s0 s1 : Int32) : Prop := (a60 = 0 → a80 ≠ 0) ∧ (a61 = 0 → a81 ≠ 0) ∧ ¬ (a80 ≠ 0 ∧ a81 ≠ 0) ∧ (s0 ≠ 0 → a80 = 0) ∧ (s1 ≠ 0 → a81 = 0) ∧ ¬ (s0 ≠ 0 ∧ s1 ≠ 0) ∧ (a90 = 0 ∨ a90 = 1) ∧ (a91 = 0 ∨ a91 = 1)
def IK (lk : Int32) (q0 q1 : List MSG) (w0 w1 : List Nat) (s0 s1 : Int32) : Prop := lk = 0 → q0 = [] ∧ q1 = [] ∧ w0 = [] ∧ w1 = [] ∧ s0 = 0 ∧ s1 = 0
def IE (n : Nat) (own ep pv : Nat → Nat) : Prop := (∀ w w', 1 ≤ w → w < w' → w' ≤ n → own w = own w' → ep w ≤ ep w') ∧ (∀ w, 1 ≤ w → w ≤ n → w ≤ pv (own w)) ∧ ∀ b, b < 2 → pv b = 0 ∨ (1 ≤ pv b ∧ pv b ≤ n ∧ own (pv b) = b)
def IT (n : Nat) (own blk ep ft : Nat → Nat) : Prop := n ≤ 300 ∧ ∀ w, 1 ≤ w → w ≤ n → own w < 2 ∧ blk w < 32 ∧ ep w ≤ w ∧ ft w < 5
def Inv (t : Nat) (n : Nat) (own blk ep ft : Nat → Nat) (sc : HH) (lk gr : Int32) (mp un : Nat → Nat → Bool) (q : Nat → List MSG) (wt : Nat → List Nat) (wx : Nat → Bool) (pv : Nat → Nat) : Prop :=
  IT n own blk ep ft ∧ (∃ g, gr = nI g ∧ 1 ≤ g ∧ g ≤ 1 + 301 * t) ∧
  IN n own blk ft 0 (sc 12 0) (mp 0) (un 0) (PL (q 1) (wt 1) (q 0)) ∧
  IN n own blk ft 1 (sc 12 1) (mp 1) (un 1) (PL (q 0) (wt 0) (q 1)) ∧
  IQ (q 0) (sc 12 0) (sc 12 1) ∧ IQ (q 1) (sc 12 0) (sc 12 1) ∧ IR (wt 1) (q 0) ∧ IR (wt 0) (q 1) ∧
  IW n own (wt 0) (wt 1) wx ∧ IC (sc 6 0) (sc 6 1) (sc 8 0) (sc 8 1) (sc 9 0) (sc 9 1) (sc 12 0) (sc 12 1) ∧
  IK lk (q 0) (q 1) (wt 0) (wt 1) (sc 12 0) (sc 12 1) ∧ IE n own ep pv
def J2 (t : Nat) (v m : HH) : Prop := ∃ (n : Nat) (own blk ep ft : Nat → Nat) (sc : HH) (lk gr : Int32) (mp un : Nat → Nat → Bool) (q : Nat → List MSG) (wt : Nat → List Nat) (wx : Nat → Bool) (lg : Nat → List Nat) (us : Nat → Nat → Nat) (pv : Nat → Nat), Rel n own blk ep ft sc lk gr mp un q wt wx lg us pv v m ∧ Inv t n own blk ep ft sc lk gr mp un q wt wx pv
def RS (t : Nat) (rv rm : Int32 × HH) : Prop := rv.1 = rm.1 ∧ J2 (t + 1) rv.2 rm.2
theorem J2.mono {t t' : Nat} {v m : HH} (h : J2 t v m) (ht : t ≤ t') : J2 t' v m := by
  obtain ⟨n, own, blk, ep, ft, sc, lk, gr, mp, un, q, wt, wx, lg, us, pv, hR, h1, ⟨g, g1, g2, g3⟩, h3⟩ := h
  exact ⟨n, own, blk, ep, ft, sc, lk, gr, mp, un, q, wt, wx, lg, us, pv, hR, h1, ⟨g, g1, g2, by omega⟩, h3⟩
theorem RS.same {t : Nat} {v m : HH} (h : J2 t v m) (x : Int32) : RS t (x, v) (x, m) := ⟨rfl, h.mono (by omega)⟩
theorem ndc (x : Int32) : (x ≠ 0 ∧ x ≠ 1) ∨ x = nI 0 ∨ x = nI 1 := by
  by_cases h0 : x = 0
  · exact Or.inr (Or.inl (h0.trans li0))
  · by_cases h1 : x = 1
    · exact Or.inr (Or.inr (h1.trans li1))
    · exact Or.inl ⟨h0, h1⟩
theorem one0 : ¬ (1 : Int32) = 0 := by decide
theorem vN_0 (fz : Nat) (h : HH) : B_V_isNode fz (nI 0) h = 1 := by rw [B_V_isNode, if_pos nI_0]
theorem vN_1 (fz : Nat) (h : HH) : B_V_isNode fz (nI 1) h = 1 := by rw [B_V_isNode, if_neg nI1_0, if_pos (by decide +kernel)]
theorem mN_0 (fz : Nat) (h : HH) : B_M_isNode fz (nI 0) h = 1 := by rw [B_M_isNode, if_pos nI_0]
theorem mN_1 (fz : Nat) (h : HH) : B_M_isNode fz (nI 1) h = 1 := by rw [B_M_isNode, if_neg nI1_0, if_pos (by decide +kernel)]
theorem vN_n (fz : Nat) (h : HH) {x : Int32} (h0 : x ≠ 0) (h1 : x ≠ 1) : B_V_isNode fz x h = 0 := by rw [B_V_isNode, if_neg h0, if_neg h1]
theorem mN_n (fz : Nat) (h : HH) {x : Int32} (h0 : x ≠ 0) (h1 : x ≠ 1) : B_M_isNode fz x h = 0 := by rw [B_M_isNode, if_neg h0, if_neg h1]
theorem pO_0 (fz : Nat) (h : HH) : B_V_peerOf fz (nI 0) h = 11 := by rw [B_V_peerOf, if_pos nI_0]
theorem pO_1 (fz : Nat) (h : HH) : B_V_peerOf fz (nI 1) h = 1 := by rw [B_V_peerOf, if_neg nI1_0]
theorem pT_isNode (fz : Nat) (x : Int32) (h : HH) : P_V_isNode fz x h := by simp [P_V_isNode]
theorem pT_isNodeM (fz : Nat) (x : Int32) (h : HH) : P_M_isNode fz x h := by simp [P_M_isNode]
theorem pT_nodeOf (fz : Nat) (x : Int32) (h : HH) : P_V_nodeOf fz x h := by simp [P_V_nodeOf]
theorem pT_peerOf (fz : Nat) (x : Int32) (h : HH) : P_V_peerOf fz x h := by simp [P_V_peerOf]
theorem ixb_0 : ix (nI 0) = 0 := nI_clamp (by decide)
theorem ixb_1 : ix (nI 1) = 1 := nI_clamp (by decide)
theorem vpb_0 : vp_in (nI 0) 2 := vp_in_nI (by decide) (by decide)
theorem vpb_1 : vp_in (nI 1) 2 := vp_in_nI (by decide) (by decide)
theorem om_0 : (1 : Int32) - nI 0 = nI 1 := x1m (b := 0) (by decide)
theorem om_1 : (1 : Int32) - nI 1 = nI 0 := x1m (b := 1) (by decide)
end
section
theorem Inv.mono {t t' : Nat} {n : Nat} {own blk ep ft : Nat → Nat} {sc : HH} {lk gr : Int32} {mp un : Nat → Nat → Bool} {q : Nat → List MSG} {wt : Nat → List Nat} {wx : Nat → Bool} {pv : Nat → Nat} (h : Inv t n own blk ep ft sc lk gr mp un q wt wx pv) (ht : t ≤ t') : Inv t' n own blk ep ft sc lk gr mp un q wt wx pv := by
  obtain ⟨h1, ⟨g, g1, g2, g3⟩, h3⟩ := h
  exact ⟨h1, ⟨g, g1, g2, by omega⟩, h3⟩
theorem cp_V {n : Nat} {own blk ep ft : Nat → Nat} {v m : HH} (fz : Nat) (hz : 400 ≤ fz) (hT : GT n own blk ep ft (v 21 5) (v 22) (v 23) (v 24) (v 25) (v 26) (m 27 0) (m 27 11) (m 28) (m 29) (m 30) (m 31) (m 32)) (iT : IT n own blk ep ft) {b : Nat} (hb : b < 2) : P_T_countPending fz (nI b) v ∧ B_T_countPending fz (nI b) v = nI (cnP n own ft b) := by
  have c := cv_countPending fz hz (nI b) v iT.1 hT.1
  refine ⟨c.1, c.2.trans (congrArg nI (cn_congr n 1 (fun w g1 g2 => ?_)))⟩
  obtain ⟨⟨e1, e2, e3, e4, e5⟩, -⟩ := hT.2.2.2.2 w g1 (by omega)
  obtain ⟨o1, o2, o3, o4⟩ := iT.2 w g1 (by omega)
  have k1 : nI (own w) = nI b ↔ own w = b := nI_eq (by omega) (by omega)
  have k2 : nI (ft w) = (1 : Int32) ↔ ft w = 1 := by rw [li1]; exact nI_eq (by omega) (by omega)
  rw [e1, e5]
  simp only [k1, k2]
theorem cp_M {n : Nat} {own blk ep ft : Nat → Nat} {v m : HH} (fz : Nat) (hz : 400 ≤ fz) (hT : GT n own blk ep ft (v 21 5) (v 22) (v 23) (v 24) (v 25) (v 26) (m 27 0) (m 27 11) (m 28) (m 29) (m 30) (m 31) (m 32)) (iT : IT n own blk ep ft) {b f t : Nat} (hb : b < 2) (hf : f < 100) (ht : t < 100) {xf xt : Int32} (ef : xf = nI f) (et : xt = nI t) : P_M_pending fz (nI b) xf xt m ∧ B_M_pending fz (nI b) xf xt m = nI (cn (fun w => decide (own w = b ∧ ft w = 1 ∧ f ≤ blk w ∧ blk w ≤ t)) 1 n) := by
  subst ef
  subst et
  have c := cv_pending fz hz (nI b) (nI f) (nI t) m iT.1 hT.2.1
  refine ⟨c.1, c.2.trans (congrArg nI (cn_congr n 1 (fun w g1 g2 => ?_)))⟩
  obtain ⟨-, f1, f2, f3, f4⟩ := hT.2.2.2.2 w g1 (by omega)
  obtain ⟨o1, o2, o3, o4⟩ := iT.2 w g1 (by omega)
  have k1 : nI (own w) = nI b ↔ own w = b := nI_eq (by omega) (by omega)
  have k2 : nI (ft w) = (1 : Int32) ↔ ft w = 1 := by rw [li1]; exact nI_eq (by omega) (by omega)
  have k3 : nI (blk w) < nI f ↔ blk w < f := nI_ltI (by omega) (by omega)
  have k4 : nI t < nI (blk w) ↔ t < blk w := nI_ltI (by omega) (by omega)
  rw [f1, f2, f4]
  simp only [k1, k2, k3, k4, Nat.not_lt]
  exact decide_eq_decide.mpr ⟨fun r => ⟨r.2.1, r.1, r.2.2⟩, fun r => ⟨r.2.1, r.1, r.2.2⟩⟩
theorem cp_all {n : Nat} {own blk ep ft : Nat → Nat} (iT : IT n own blk ep ft) (b : Nat) : cn (fun w => decide (own w = b ∧ ft w = 1 ∧ 0 ≤ blk w ∧ blk w ≤ 31)) 1 n = cnP n own ft b := by
  refine cn_congr n 1 (fun w g1 g2 => ?_)
  obtain ⟨o1, o2, o3, o4⟩ := iT.2 w g1 (by omega)
  exact decide_eq_decide.mpr ⟨fun r => ⟨r.1, r.2.1⟩, fun r => ⟨r.1, r.2, Nat.zero_le _, by omega⟩⟩
theorem u2_id {h : HH} {i k : Nat} {x : Int32} (hx : x = h i k) : u2 h i k x = h := by
  funext a b
  unfold u2
  by_cases c : a = i ∧ b = k
  · rw [if_pos c, hx, c.1, c.2]
  · rw [if_neg c]
theorem rs_id {c0 a e : Nat} {f : Nat → Int32} {h : HH} (hf : ∀ k, a ≤ k → k < e → f k = h c0 k) : rs c0 a e f h = h := by
  funext c k
  unfold rs
  by_cases q : c = c0 ∧ a ≤ k ∧ k < e
  · rw [if_pos q, hf k q.2.1 q.2.2, q.1]
  · rw [if_neg q]
theorem S_barrier (fz : Nat) (hz : 400 ≤ fz) {t : Nat} (ht : t ≤ 600) {v m : HH} (hJ : J2 t v m) (x : Int32) : P_V_barrier fz x v ∧ P_M_barrier fz x m ∧ RS t (B_V_barrier fz x v) (B_M_barrier fz x m) := by
  rcases ndc x with ⟨h0, h1⟩ | rfl | rfl
  · have eV : B_V_barrier fz x v = (0, v) := by simp only [B_V_barrier, vN_n fz v h0 h1, eq_self, one0, if_true, if_false, not_true_eq_false, not_false_eq_true, true_implies, false_implies, implies_true, and_true, true_and]
    have eM : B_M_barrier fz x m = (0, m) := by simp only [B_M_barrier, mN_n fz m h0 h1, eq_self, one0, if_true, if_false, not_true_eq_false, not_false_eq_true, true_implies, false_implies, implies_true, and_true, true_and]
    refine ⟨by simp only [P_V_barrier, pT_isNode, vN_n fz v h0 h1, eq_self, one0, if_true, if_false, not_true_eq_false, not_false_eq_true, true_implies, false_implies, implies_true, and_true, true_and], by simp only [P_M_barrier, pT_isNodeM, mN_n fz m h0 h1, eq_self, one0, if_true, if_false, not_true_eq_false, not_false_eq_true, true_implies, false_implies, implies_true, and_true, true_and], ?_⟩
    rw [eV, eM]
    exact RS.same hJ _
  · have hJ0 := hJ
    obtain ⟨n, own, blk, ep, ft, sc, lk, gr, mp, un, q, wt, wx, lg, us, pv, hR, hI⟩ := hJ
    have hR' := hR
    obtain ⟨hL, hT, hX, hS0, hM0, hD0, hR0, hA0, hW0, hG0, hU0, hE0, hS1, hM1, hD1, hR1, hA1, hW1, hG1, hU1, hE1⟩ := hR'
    have hI' := hI
    obtain ⟨iT, iG, iN0, iN1, iQ0, iQ1, iR0, iR1, iW, iC, iK, iE⟩ := hI'
    obtain ⟨s0a, s1a, s2a, s3a, s4a, s5a, s6a, s7a, s8a, s9a, s10a, s11a, s12a, s13a, s14a, s15a, s16a⟩ := hS0
    obtain ⟨s0b, s1b, s2b, s3b, s4b, s5b, s6b, s7b, s8b, s9b, s10b, s11b, s12b, s13b, s14b, s15b, s16b⟩ := hS1
    obtain ⟨l1, l2, l3, l4⟩ := hL
    by_cases c10 : sc 10 0 = 0
    · have eV : B_V_barrier fz (nI 0) v = (0, v) := by simp only [B_V_barrier, vN_0, mN_0, nO_0, pO_0, ixb_0, vpb_0, om_0, ixb_1, vpb_1, s5a, s13a, s6a, s14a, c10, eq_self, one0, if_true, if_false, not_true_eq_false, not_false_eq_true, true_implies, false_implies, implies_true, and_true, true_and]
      have eM : B_M_barrier fz (nI 0) m = (0, m) := by simp only [B_M_barrier, vN_0, mN_0, nO_0, pO_0, ixb_0, vpb_0, om_0, ixb_1, vpb_1, s5a, s13a, s6a, s14a, c10, eq_self, one0, if_true, if_false, not_true_eq_false, not_false_eq_true, true_implies, false_implies, implies_true, and_true, true_and]
      refine ⟨by simp only [P_V_barrier, pT_isNode, pT_nodeOf, pT_peerOf, vN_0, mN_0, nO_0, pO_0, ixb_0, vpb_0, om_0, ixb_1, vpb_1, s5a, s13a, s6a, s14a, c10, eq_self, one0, if_true, if_false, not_true_eq_false, not_false_eq_true, true_implies, false_implies, implies_true, and_true, true_and], by simp only [P_M_barrier, pT_isNodeM, vN_0, mN_0, nO_0, pO_0, ixb_0, vpb_0, om_0, ixb_1, vpb_1, s5a, s13a, s6a, s14a, c10, eq_self, one0, if_true, if_false, not_true_eq_false, not_false_eq_true, true_implies, false_implies, implies_true, and_true, true_and], ?_⟩
      rw [eV, eM]
      exact RS.same hJ0 _
    · by_cases c11 : sc 11 0 = 0
      · have eV : B_V_barrier fz (nI 0) v = (0, v) := by simp only [B_V_barrier, vN_0, mN_0, nO_0, pO_0, ixb_0, vpb_0, om_0, ixb_1, vpb_1, s5a, s13a, s6a, s14a, c10, c11, eq_self, one0, if_true, if_false, not_true_eq_false, not_false_eq_true, true_implies, false_implies, implies_true, and_true, true_and]
        have eM : B_M_barrier fz (nI 0) m = (0, m) := by simp only [B_M_barrier, vN_0, mN_0, nO_0, pO_0, ixb_0, vpb_0, om_0, ixb_1, vpb_1, s5a, s13a, s6a, s14a, c10, c11, eq_self, one0, if_true, if_false, not_true_eq_false, not_false_eq_true, true_implies, false_implies, implies_true, and_true, true_and]
        refine ⟨by simp only [P_V_barrier, pT_isNode, pT_nodeOf, pT_peerOf, vN_0, mN_0, nO_0, pO_0, ixb_0, vpb_0, om_0, ixb_1, vpb_1, s5a, s13a, s6a, s14a, c10, c11, eq_self, one0, if_true, if_false, not_true_eq_false, not_false_eq_true, true_implies, false_implies, implies_true, and_true, true_and], by simp only [P_M_barrier, pT_isNodeM, vN_0, mN_0, nO_0, pO_0, ixb_0, vpb_0, om_0, ixb_1, vpb_1, s5a, s13a, s6a, s14a, c10, c11, eq_self, one0, if_true, if_false, not_true_eq_false, not_false_eq_true, true_implies, false_implies, implies_true, and_true, true_and], ?_⟩
        rw [eV, eM]
        exact RS.same hJ0 _
      · have eV : B_V_barrier fz (nI 0) v = (1, u2 v 1 16 1) := by simp only [B_V_barrier, vN_0, mN_0, nO_0, pO_0, ixb_0, vpb_0, om_0, ixb_1, vpb_1, s5a, s13a, s6a, s14a, c10, c11, eq_self, one0, if_true, if_false, not_true_eq_false, not_false_eq_true, true_implies, false_implies, implies_true, and_true, true_and]
        have eM : B_M_barrier fz (nI 0) m = (1, u2 m 46 0 1) := by simp only [B_M_barrier, vN_0, mN_0, nO_0, pO_0, ixb_0, vpb_0, om_0, ixb_1, vpb_1, s5a, s13a, s6a, s14a, c10, c11, eq_self, one0, if_true, if_false, not_true_eq_false, not_false_eq_true, true_implies, false_implies, implies_true, and_true, true_and]
        refine ⟨by simp only [P_V_barrier, pT_isNode, pT_nodeOf, vN_0, mN_0, nO_0, pO_0, ixb_0, vpb_0, om_0, ixb_1, vpb_1, s5a, s13a, s6a, s14a, c10, c11, eq_self, one0, if_true, if_false, not_true_eq_false, not_false_eq_true, true_implies, false_implies, implies_true, and_true, true_and], by simp only [P_M_barrier, pT_isNodeM, vN_0, mN_0, nO_0, pO_0, ixb_0, vpb_0, om_0, ixb_1, vpb_1, s5a, s13a, s6a, s14a, c10, c11, eq_self, one0, if_true, if_false, not_true_eq_false, not_false_eq_true, true_implies, false_implies, implies_true, and_true, true_and], ?_⟩
        rw [eV, eM]
        exact ⟨rfl, n, own, blk, ep, ft, sc, lk, gr, mp, un, q, wt, wx, lg, us, pv, r_bar_0 hR, hI.mono (by omega)⟩
  · have hJ0 := hJ
    obtain ⟨n, own, blk, ep, ft, sc, lk, gr, mp, un, q, wt, wx, lg, us, pv, hR, hI⟩ := hJ
    have hR' := hR
    obtain ⟨hL, hT, hX, hS0, hM0, hD0, hR0, hA0, hW0, hG0, hU0, hE0, hS1, hM1, hD1, hR1, hA1, hW1, hG1, hU1, hE1⟩ := hR'
    have hI' := hI
    obtain ⟨iT, iG, iN0, iN1, iQ0, iQ1, iR0, iR1, iW, iC, iK, iE⟩ := hI'
    obtain ⟨s0a, s1a, s2a, s3a, s4a, s5a, s6a, s7a, s8a, s9a, s10a, s11a, s12a, s13a, s14a, s15a, s16a⟩ := hS0
    obtain ⟨s0b, s1b, s2b, s3b, s4b, s5b, s6b, s7b, s8b, s9b, s10b, s11b, s12b, s13b, s14b, s15b, s16b⟩ := hS1
    obtain ⟨l1, l2, l3, l4⟩ := hL
    by_cases c10 : sc 10 1 = 0
    · have eV : B_V_barrier fz (nI 1) v = (0, v) := by simp only [B_V_barrier, vN_1, mN_1, nO_1, pO_1, ixb_1, vpb_1, om_1, ixb_0, vpb_0, s5b, s13b, s6b, s14b, c10, eq_self, one0, if_true, if_false, not_true_eq_false, not_false_eq_true, true_implies, false_implies, implies_true, and_true, true_and]
      have eM : B_M_barrier fz (nI 1) m = (0, m) := by simp only [B_M_barrier, vN_1, mN_1, nO_1, pO_1, ixb_1, vpb_1, om_1, ixb_0, vpb_0, s5b, s13b, s6b, s14b, c10, eq_self, one0, if_true, if_false, not_true_eq_false, not_false_eq_true, true_implies, false_implies, implies_true, and_true, true_and]
      refine ⟨by simp only [P_V_barrier, pT_isNode, pT_nodeOf, pT_peerOf, vN_1, mN_1, nO_1, pO_1, ixb_1, vpb_1, om_1, ixb_0, vpb_0, s5b, s13b, s6b, s14b, c10, eq_self, one0, if_true, if_false, not_true_eq_false, not_false_eq_true, true_implies, false_implies, implies_true, and_true, true_and], by simp only [P_M_barrier, pT_isNodeM, vN_1, mN_1, nO_1, pO_1, ixb_1, vpb_1, om_1, ixb_0, vpb_0, s5b, s13b, s6b, s14b, c10, eq_self, one0, if_true, if_false, not_true_eq_false, not_false_eq_true, true_implies, false_implies, implies_true, and_true, true_and], ?_⟩
      rw [eV, eM]
      exact RS.same hJ0 _
    · by_cases c11 : sc 11 1 = 0
      · have eV : B_V_barrier fz (nI 1) v = (0, v) := by simp only [B_V_barrier, vN_1, mN_1, nO_1, pO_1, ixb_1, vpb_1, om_1, ixb_0, vpb_0, s5b, s13b, s6b, s14b, c10, c11, eq_self, one0, if_true, if_false, not_true_eq_false, not_false_eq_true, true_implies, false_implies, implies_true, and_true, true_and]
        have eM : B_M_barrier fz (nI 1) m = (0, m) := by simp only [B_M_barrier, vN_1, mN_1, nO_1, pO_1, ixb_1, vpb_1, om_1, ixb_0, vpb_0, s5b, s13b, s6b, s14b, c10, c11, eq_self, one0, if_true, if_false, not_true_eq_false, not_false_eq_true, true_implies, false_implies, implies_true, and_true, true_and]
        refine ⟨by simp only [P_V_barrier, pT_isNode, pT_nodeOf, pT_peerOf, vN_1, mN_1, nO_1, pO_1, ixb_1, vpb_1, om_1, ixb_0, vpb_0, s5b, s13b, s6b, s14b, c10, c11, eq_self, one0, if_true, if_false, not_true_eq_false, not_false_eq_true, true_implies, false_implies, implies_true, and_true, true_and], by simp only [P_M_barrier, pT_isNodeM, vN_1, mN_1, nO_1, pO_1, ixb_1, vpb_1, om_1, ixb_0, vpb_0, s5b, s13b, s6b, s14b, c10, c11, eq_self, one0, if_true, if_false, not_true_eq_false, not_false_eq_true, true_implies, false_implies, implies_true, and_true, true_and], ?_⟩
        rw [eV, eM]
        exact RS.same hJ0 _
      · have eV : B_V_barrier fz (nI 1) v = (1, u2 v 11 16 1) := by simp only [B_V_barrier, vN_1, mN_1, nO_1, pO_1, ixb_1, vpb_1, om_1, ixb_0, vpb_0, s5b, s13b, s6b, s14b, c10, c11, eq_self, one0, if_true, if_false, not_true_eq_false, not_false_eq_true, true_implies, false_implies, implies_true, and_true, true_and]
        have eM : B_M_barrier fz (nI 1) m = (1, u2 m 46 1 1) := by simp only [B_M_barrier, vN_1, mN_1, nO_1, pO_1, ixb_1, vpb_1, om_1, ixb_0, vpb_0, s5b, s13b, s6b, s14b, c10, c11, eq_self, one0, if_true, if_false, not_true_eq_false, not_false_eq_true, true_implies, false_implies, implies_true, and_true, true_and]
        refine ⟨by simp only [P_V_barrier, pT_isNode, pT_nodeOf, vN_1, mN_1, nO_1, pO_1, ixb_1, vpb_1, om_1, ixb_0, vpb_0, s5b, s13b, s6b, s14b, c10, c11, eq_self, one0, if_true, if_false, not_true_eq_false, not_false_eq_true, true_implies, false_implies, implies_true, and_true, true_and], by simp only [P_M_barrier, pT_isNodeM, vN_1, mN_1, nO_1, pO_1, ixb_1, vpb_1, om_1, ixb_0, vpb_0, s5b, s13b, s6b, s14b, c10, c11, eq_self, one0, if_true, if_false, not_true_eq_false, not_false_eq_true, true_implies, false_implies, implies_true, and_true, true_and], ?_⟩
        rw [eV, eM]
        exact ⟨rfl, n, own, blk, ep, ft, sc, lk, gr, mp, un, q, wt, wx, lg, us, pv, r_bar_1 hR, hI.mono (by omega)⟩
theorem S_promote (fz : Nat) (hz : 400 ≤ fz) {t : Nat} (ht : t ≤ 600) {v m : HH} (hJ : J2 t v m) (x : Int32) : P_V_promote fz x v ∧ P_M_promote fz x m ∧ RS t (B_V_promote fz x v) (B_M_promote fz x m) := by
  rcases ndc x with ⟨h0, h1⟩ | rfl | rfl
  · have eV : B_V_promote fz x v = (-1, v) := by simp only [B_V_promote, vN_n fz v h0 h1, eq_self, one0, if_true, if_false, not_true_eq_false, not_false_eq_true, true_implies, false_implies, implies_true, and_true, true_and]
    have eM : B_M_promote fz x m = (-1, m) := by simp only [B_M_promote, mN_n fz m h0 h1, eq_self, one0, if_true, if_false, not_true_eq_false, not_false_eq_true, true_implies, false_implies, implies_true, and_true, true_and]
    refine ⟨by simp only [P_V_promote, pT_isNode, vN_n fz v h0 h1, eq_self, one0, if_true, if_false, not_true_eq_false, not_false_eq_true, true_implies, false_implies, implies_true, and_true, true_and], by simp only [P_M_promote, pT_isNodeM, mN_n fz m h0 h1, eq_self, one0, if_true, if_false, not_true_eq_false, not_false_eq_true, true_implies, false_implies, implies_true, and_true, true_and], ?_⟩
    rw [eV, eM]
    exact RS.same hJ _
  · have hJ0 := hJ
    obtain ⟨n, own, blk, ep, ft, sc, lk, gr, mp, un, q, wt, wx, lg, us, pv, hR, hI⟩ := hJ
    have hR' := hR
    obtain ⟨hL, hT, hX, hS0, hM0, hD0, hR0, hA0, hW0, hG0, hU0, hE0, hS1, hM1, hD1, hR1, hA1, hW1, hG1, hU1, hE1⟩ := hR'
    have hI' := hI
    obtain ⟨iT, iG, iN0, iN1, iQ0, iQ1, iR0, iR1, iW, iC, iK, iE⟩ := hI'
    obtain ⟨s0a, s1a, s2a, s3a, s4a, s5a, s6a, s7a, s8a, s9a, s10a, s11a, s12a, s13a, s14a, s15a, s16a⟩ := hS0
    obtain ⟨s0b, s1b, s2b, s3b, s4b, s5b, s6b, s7b, s8b, s9b, s10b, s11b, s12b, s13b, s14b, s15b, s16b⟩ := hS1
    obtain ⟨l1, l2, l3, l4⟩ := hL
    by_cases c10 : sc 10 0 = 0
    · have eV : B_V_promote fz (nI 0) v = (-2, v) := by simp only [B_V_promote, vN_0, mN_0, nO_0, pO_0, ixb_0, vpb_0, om_0, ixb_1, vpb_1, s3a, s11a, s5a, s13a, s6a, s14a, s6b, s14b, l1, l3, c10, eq_self, one0, if_true, if_false, not_true_eq_false, not_false_eq_true, true_implies, false_implies, implies_true, and_true, true_and]
      have eM : B_M_promote fz (nI 0) m = (-2, m) := by simp only [B_M_promote, vN_0, mN_0, nO_0, pO_0, ixb_0, vpb_0, om_0, ixb_1, vpb_1, s3a, s11a, s5a, s13a, s6a, s14a, s6b, s14b, l1, l3, c10, eq_self, one0, if_true, if_false, not_true_eq_false, not_false_eq_true, true_implies, false_implies, implies_true, and_true, true_and]
      refine ⟨by simp only [P_V_promote, pT_isNode, pT_nodeOf, pT_peerOf, vN_0, mN_0, nO_0, pO_0, ixb_0, vpb_0, om_0, ixb_1, vpb_1, s3a, s11a, s5a, s13a, s6a, s14a, s6b, s14b, l1, l3, c10, P_V_promote_56, eq_self, one0, if_true, if_false, not_true_eq_false, not_false_eq_true, true_implies, false_implies, implies_true, and_true, true_and], by simp only [P_M_promote, pT_isNodeM, vN_0, mN_0, nO_0, pO_0, ixb_0, vpb_0, om_0, ixb_1, vpb_1, s3a, s11a, s5a, s13a, s6a, s14a, s6b, s14b, l1, l3, c10, P_M_promote_54, eq_self, one0, if_true, if_false, not_true_eq_false, not_false_eq_true, true_implies, false_implies, implies_true, and_true, true_and], ?_⟩
      rw [eV, eM]
      exact RS.same hJ0 _
    · by_cases c8 : sc 8 0 = 0
      · by_cases cl : lk = 0
        · have eV : B_V_promote fz (nI 0) v = (0, u2 v 1 11 1) := by simp only [B_V_promote, B_V_promote_56, vN_0, mN_0, nO_0, pO_0, ixb_0, vpb_0, om_0, ixb_1, vpb_1, s3a, s11a, s5a, s13a, s6a, s14a, s6b, s14b, l1, l3, c10, c8, cl, eq_self, one0, if_true, if_false, not_true_eq_false, not_false_eq_true, true_implies, false_implies, implies_true, and_true, true_and]
          have eM : B_M_promote fz (nI 0) m = (0, u2 m 43 0 1) := by simp only [B_M_promote, B_M_promote_54, vN_0, mN_0, nO_0, pO_0, ixb_0, vpb_0, om_0, ixb_1, vpb_1, s3a, s11a, s5a, s13a, s6a, s14a, s6b, s14b, l1, l3, c10, c8, cl, eq_self, one0, if_true, if_false, not_true_eq_false, not_false_eq_true, true_implies, false_implies, implies_true, and_true, true_and]
          refine ⟨by simp only [P_V_promote, P_V_promote_56, pT_isNode, pT_nodeOf, pT_peerOf, vN_0, mN_0, nO_0, pO_0, ixb_0, vpb_0, om_0, ixb_1, vpb_1, s3a, s11a, s5a, s13a, s6a, s14a, s6b, s14b, l1, l3, c10, c8, cl, eq_self, one0, if_true, if_false, not_true_eq_false, not_false_eq_true, true_implies, false_implies, implies_true, and_true, true_and], by simp only [P_M_promote, P_M_promote_54, pT_isNodeM, vN_0, mN_0, nO_0, pO_0, ixb_0, vpb_0, om_0, ixb_1, vpb_1, s3a, s11a, s5a, s13a, s6a, s14a, s6b, s14b, l1, l3, c10, c8, cl, eq_self, one0, if_true, if_false, not_true_eq_false, not_false_eq_true, true_implies, false_implies, implies_true, and_true, true_and], ?_⟩
          rw [eV, eM]
          exact ⟨rfl, n, own, blk, ep, ft, u2 sc 11 0 1, lk, gr, mp, un, q, wt, wx, lg, us, pv, r_set_11_0 hR 1, hI.mono (by omega)⟩
        · by_cases c11 : sc 11 1 = 0
          · have eV : B_V_promote fz (nI 0) v = (0, u2 v 1 11 1) := by simp only [B_V_promote, B_V_promote_56, vN_0, mN_0, nO_0, pO_0, ixb_0, vpb_0, om_0, ixb_1, vpb_1, s3a, s11a, s5a, s13a, s6a, s14a, s6b, s14b, l1, l3, c10, c8, cl, c11, eq_self, one0, if_true, if_false, not_true_eq_false, not_false_eq_true, true_implies, false_implies, implies_true, and_true, true_and]
            have eM : B_M_promote fz (nI 0) m = (0, u2 m 43 0 1) := by simp only [B_M_promote, B_M_promote_54, vN_0, mN_0, nO_0, pO_0, ixb_0, vpb_0, om_0, ixb_1, vpb_1, s3a, s11a, s5a, s13a, s6a, s14a, s6b, s14b, l1, l3, c10, c8, cl, c11, eq_self, one0, if_true, if_false, not_true_eq_false, not_false_eq_true, true_implies, false_implies, implies_true, and_true, true_and]
            refine ⟨by simp only [P_V_promote, P_V_promote_56, pT_isNode, pT_nodeOf, pT_peerOf, vN_0, mN_0, nO_0, pO_0, ixb_0, vpb_0, om_0, ixb_1, vpb_1, s3a, s11a, s5a, s13a, s6a, s14a, s6b, s14b, l1, l3, c10, c8, cl, c11, eq_self, one0, if_true, if_false, not_true_eq_false, not_false_eq_true, true_implies, false_implies, implies_true, and_true, true_and], by simp only [P_M_promote, P_M_promote_54, pT_isNodeM, vN_0, mN_0, nO_0, pO_0, ixb_0, vpb_0, om_0, ixb_1, vpb_1, s3a, s11a, s5a, s13a, s6a, s14a, s6b, s14b, l1, l3, c10, c8, cl, c11, eq_self, one0, if_true, if_false, not_true_eq_false, not_false_eq_true, true_implies, false_implies, implies_true, and_true, true_and], ?_⟩
            rw [eV, eM]
            exact ⟨rfl, n, own, blk, ep, ft, u2 sc 11 0 1, lk, gr, mp, un, q, wt, wx, lg, us, pv, r_set_11_0 hR 1, hI.mono (by omega)⟩
          · have eV : B_V_promote fz (nI 0) v = (-7, v) := by simp only [B_V_promote, vN_0, mN_0, nO_0, pO_0, ixb_0, vpb_0, om_0, ixb_1, vpb_1, s3a, s11a, s5a, s13a, s6a, s14a, s6b, s14b, l1, l3, c10, c8, cl, c11, eq_self, one0, if_true, if_false, not_true_eq_false, not_false_eq_true, true_implies, false_implies, implies_true, and_true, true_and]
            have eM : B_M_promote fz (nI 0) m = (-7, m) := by simp only [B_M_promote, vN_0, mN_0, nO_0, pO_0, ixb_0, vpb_0, om_0, ixb_1, vpb_1, s3a, s11a, s5a, s13a, s6a, s14a, s6b, s14b, l1, l3, c10, c8, cl, c11, eq_self, one0, if_true, if_false, not_true_eq_false, not_false_eq_true, true_implies, false_implies, implies_true, and_true, true_and]
            refine ⟨by simp only [P_V_promote, pT_isNode, pT_nodeOf, pT_peerOf, vN_0, mN_0, nO_0, pO_0, ixb_0, vpb_0, om_0, ixb_1, vpb_1, s3a, s11a, s5a, s13a, s6a, s14a, s6b, s14b, l1, l3, c10, c8, cl, c11, P_V_promote_56, eq_self, one0, if_true, if_false, not_true_eq_false, not_false_eq_true, true_implies, false_implies, implies_true, and_true, true_and], by simp only [P_M_promote, pT_isNodeM, vN_0, mN_0, nO_0, pO_0, ixb_0, vpb_0, om_0, ixb_1, vpb_1, s3a, s11a, s5a, s13a, s6a, s14a, s6b, s14b, l1, l3, c10, c8, cl, c11, P_M_promote_54, eq_self, one0, if_true, if_false, not_true_eq_false, not_false_eq_true, true_implies, false_implies, implies_true, and_true, true_and], ?_⟩
            rw [eV, eM]
            exact RS.same hJ0 _
      · have eV : B_V_promote fz (nI 0) v = (-6, v) := by simp only [B_V_promote, vN_0, mN_0, nO_0, pO_0, ixb_0, vpb_0, om_0, ixb_1, vpb_1, s3a, s11a, s5a, s13a, s6a, s14a, s6b, s14b, l1, l3, c10, c8, eq_self, one0, if_true, if_false, not_true_eq_false, not_false_eq_true, true_implies, false_implies, implies_true, and_true, true_and]
        have eM : B_M_promote fz (nI 0) m = (-6, m) := by simp only [B_M_promote, vN_0, mN_0, nO_0, pO_0, ixb_0, vpb_0, om_0, ixb_1, vpb_1, s3a, s11a, s5a, s13a, s6a, s14a, s6b, s14b, l1, l3, c10, c8, eq_self, one0, if_true, if_false, not_true_eq_false, not_false_eq_true, true_implies, false_implies, implies_true, and_true, true_and]
        refine ⟨by simp only [P_V_promote, pT_isNode, pT_nodeOf, pT_peerOf, vN_0, mN_0, nO_0, pO_0, ixb_0, vpb_0, om_0, ixb_1, vpb_1, s3a, s11a, s5a, s13a, s6a, s14a, s6b, s14b, l1, l3, c10, c8, P_V_promote_56, eq_self, one0, if_true, if_false, not_true_eq_false, not_false_eq_true, true_implies, false_implies, implies_true, and_true, true_and], by simp only [P_M_promote, pT_isNodeM, vN_0, mN_0, nO_0, pO_0, ixb_0, vpb_0, om_0, ixb_1, vpb_1, s3a, s11a, s5a, s13a, s6a, s14a, s6b, s14b, l1, l3, c10, c8, P_M_promote_54, eq_self, one0, if_true, if_false, not_true_eq_false, not_false_eq_true, true_implies, false_implies, implies_true, and_true, true_and], ?_⟩
        rw [eV, eM]
        exact RS.same hJ0 _
  · have hJ0 := hJ
    obtain ⟨n, own, blk, ep, ft, sc, lk, gr, mp, un, q, wt, wx, lg, us, pv, hR, hI⟩ := hJ
    have hR' := hR
    obtain ⟨hL, hT, hX, hS0, hM0, hD0, hR0, hA0, hW0, hG0, hU0, hE0, hS1, hM1, hD1, hR1, hA1, hW1, hG1, hU1, hE1⟩ := hR'
    have hI' := hI
    obtain ⟨iT, iG, iN0, iN1, iQ0, iQ1, iR0, iR1, iW, iC, iK, iE⟩ := hI'
    obtain ⟨s0a, s1a, s2a, s3a, s4a, s5a, s6a, s7a, s8a, s9a, s10a, s11a, s12a, s13a, s14a, s15a, s16a⟩ := hS0
    obtain ⟨s0b, s1b, s2b, s3b, s4b, s5b, s6b, s7b, s8b, s9b, s10b, s11b, s12b, s13b, s14b, s15b, s16b⟩ := hS1
    obtain ⟨l1, l2, l3, l4⟩ := hL
    by_cases c10 : sc 10 1 = 0
    · have eV : B_V_promote fz (nI 1) v = (-2, v) := by simp only [B_V_promote, vN_1, mN_1, nO_1, pO_1, ixb_1, vpb_1, om_1, ixb_0, vpb_0, s3b, s11b, s5b, s13b, s6b, s14b, s6a, s14a, l1, l3, c10, eq_self, one0, if_true, if_false, not_true_eq_false, not_false_eq_true, true_implies, false_implies, implies_true, and_true, true_and]
      have eM : B_M_promote fz (nI 1) m = (-2, m) := by simp only [B_M_promote, vN_1, mN_1, nO_1, pO_1, ixb_1, vpb_1, om_1, ixb_0, vpb_0, s3b, s11b, s5b, s13b, s6b, s14b, s6a, s14a, l1, l3, c10, eq_self, one0, if_true, if_false, not_true_eq_false, not_false_eq_true, true_implies, false_implies, implies_true, and_true, true_and]
      refine ⟨by simp only [P_V_promote, pT_isNode, pT_nodeOf, pT_peerOf, vN_1, mN_1, nO_1, pO_1, ixb_1, vpb_1, om_1, ixb_0, vpb_0, s3b, s11b, s5b, s13b, s6b, s14b, s6a, s14a, l1, l3, c10, P_V_promote_56, eq_self, one0, if_true, if_false, not_true_eq_false, not_false_eq_true, true_implies, false_implies, implies_true, and_true, true_and], by simp only [P_M_promote, pT_isNodeM, vN_1, mN_1, nO_1, pO_1, ixb_1, vpb_1, om_1, ixb_0, vpb_0, s3b, s11b, s5b, s13b, s6b, s14b, s6a, s14a, l1, l3, c10, P_M_promote_54, eq_self, one0, if_true, if_false, not_true_eq_false, not_false_eq_true, true_implies, false_implies, implies_true, and_true, true_and], ?_⟩
      rw [eV, eM]
      exact RS.same hJ0 _
    · by_cases c8 : sc 8 1 = 0
      · by_cases cl : lk = 0
        · have eV : B_V_promote fz (nI 1) v = (0, u2 v 11 11 1) := by simp only [B_V_promote, B_V_promote_56, vN_1, mN_1, nO_1, pO_1, ixb_1, vpb_1, om_1, ixb_0, vpb_0, s3b, s11b, s5b, s13b, s6b, s14b, s6a, s14a, l1, l3, c10, c8, cl, eq_self, one0, if_true, if_false, not_true_eq_false, not_false_eq_true, true_implies, false_implies, implies_true, and_true, true_and]
          have eM : B_M_promote fz (nI 1) m = (0, u2 m 43 1 1) := by simp only [B_M_promote, B_M_promote_54, vN_1, mN_1, nO_1, pO_1, ixb_1, vpb_1, om_1, ixb_0, vpb_0, s3b, s11b, s5b, s13b, s6b, s14b, s6a, s14a, l1, l3, c10, c8, cl, eq_self, one0, if_true, if_false, not_true_eq_false, not_false_eq_true, true_implies, false_implies, implies_true, and_true, true_and]
          refine ⟨by simp only [P_V_promote, P_V_promote_56, pT_isNode, pT_nodeOf, pT_peerOf, vN_1, mN_1, nO_1, pO_1, ixb_1, vpb_1, om_1, ixb_0, vpb_0, s3b, s11b, s5b, s13b, s6b, s14b, s6a, s14a, l1, l3, c10, c8, cl, eq_self, one0, if_true, if_false, not_true_eq_false, not_false_eq_true, true_implies, false_implies, implies_true, and_true, true_and], by simp only [P_M_promote, P_M_promote_54, pT_isNodeM, vN_1, mN_1, nO_1, pO_1, ixb_1, vpb_1, om_1, ixb_0, vpb_0, s3b, s11b, s5b, s13b, s6b, s14b, s6a, s14a, l1, l3, c10, c8, cl, eq_self, one0, if_true, if_false, not_true_eq_false, not_false_eq_true, true_implies, false_implies, implies_true, and_true, true_and], ?_⟩
          rw [eV, eM]
          exact ⟨rfl, n, own, blk, ep, ft, u2 sc 11 1 1, lk, gr, mp, un, q, wt, wx, lg, us, pv, r_set_11_1 hR 1, hI.mono (by omega)⟩
        · by_cases c11 : sc 11 0 = 0
          · have eV : B_V_promote fz (nI 1) v = (0, u2 v 11 11 1) := by simp only [B_V_promote, B_V_promote_56, vN_1, mN_1, nO_1, pO_1, ixb_1, vpb_1, om_1, ixb_0, vpb_0, s3b, s11b, s5b, s13b, s6b, s14b, s6a, s14a, l1, l3, c10, c8, cl, c11, eq_self, one0, if_true, if_false, not_true_eq_false, not_false_eq_true, true_implies, false_implies, implies_true, and_true, true_and]
            have eM : B_M_promote fz (nI 1) m = (0, u2 m 43 1 1) := by simp only [B_M_promote, B_M_promote_54, vN_1, mN_1, nO_1, pO_1, ixb_1, vpb_1, om_1, ixb_0, vpb_0, s3b, s11b, s5b, s13b, s6b, s14b, s6a, s14a, l1, l3, c10, c8, cl, c11, eq_self, one0, if_true, if_false, not_true_eq_false, not_false_eq_true, true_implies, false_implies, implies_true, and_true, true_and]
            refine ⟨by simp only [P_V_promote, P_V_promote_56, pT_isNode, pT_nodeOf, pT_peerOf, vN_1, mN_1, nO_1, pO_1, ixb_1, vpb_1, om_1, ixb_0, vpb_0, s3b, s11b, s5b, s13b, s6b, s14b, s6a, s14a, l1, l3, c10, c8, cl, c11, eq_self, one0, if_true, if_false, not_true_eq_false, not_false_eq_true, true_implies, false_implies, implies_true, and_true, true_and], by simp only [P_M_promote, P_M_promote_54, pT_isNodeM, vN_1, mN_1, nO_1, pO_1, ixb_1, vpb_1, om_1, ixb_0, vpb_0, s3b, s11b, s5b, s13b, s6b, s14b, s6a, s14a, l1, l3, c10, c8, cl, c11, eq_self, one0, if_true, if_false, not_true_eq_false, not_false_eq_true, true_implies, false_implies, implies_true, and_true, true_and], ?_⟩
            rw [eV, eM]
            exact ⟨rfl, n, own, blk, ep, ft, u2 sc 11 1 1, lk, gr, mp, un, q, wt, wx, lg, us, pv, r_set_11_1 hR 1, hI.mono (by omega)⟩
          · have eV : B_V_promote fz (nI 1) v = (-7, v) := by simp only [B_V_promote, vN_1, mN_1, nO_1, pO_1, ixb_1, vpb_1, om_1, ixb_0, vpb_0, s3b, s11b, s5b, s13b, s6b, s14b, s6a, s14a, l1, l3, c10, c8, cl, c11, eq_self, one0, if_true, if_false, not_true_eq_false, not_false_eq_true, true_implies, false_implies, implies_true, and_true, true_and]
            have eM : B_M_promote fz (nI 1) m = (-7, m) := by simp only [B_M_promote, vN_1, mN_1, nO_1, pO_1, ixb_1, vpb_1, om_1, ixb_0, vpb_0, s3b, s11b, s5b, s13b, s6b, s14b, s6a, s14a, l1, l3, c10, c8, cl, c11, eq_self, one0, if_true, if_false, not_true_eq_false, not_false_eq_true, true_implies, false_implies, implies_true, and_true, true_and]
            refine ⟨by simp only [P_V_promote, pT_isNode, pT_nodeOf, pT_peerOf, vN_1, mN_1, nO_1, pO_1, ixb_1, vpb_1, om_1, ixb_0, vpb_0, s3b, s11b, s5b, s13b, s6b, s14b, s6a, s14a, l1, l3, c10, c8, cl, c11, P_V_promote_56, eq_self, one0, if_true, if_false, not_true_eq_false, not_false_eq_true, true_implies, false_implies, implies_true, and_true, true_and], by simp only [P_M_promote, pT_isNodeM, vN_1, mN_1, nO_1, pO_1, ixb_1, vpb_1, om_1, ixb_0, vpb_0, s3b, s11b, s5b, s13b, s6b, s14b, s6a, s14a, l1, l3, c10, c8, cl, c11, P_M_promote_54, eq_self, one0, if_true, if_false, not_true_eq_false, not_false_eq_true, true_implies, false_implies, implies_true, and_true, true_and], ?_⟩
            rw [eV, eM]
            exact RS.same hJ0 _
      · have eV : B_V_promote fz (nI 1) v = (-6, v) := by simp only [B_V_promote, vN_1, mN_1, nO_1, pO_1, ixb_1, vpb_1, om_1, ixb_0, vpb_0, s3b, s11b, s5b, s13b, s6b, s14b, s6a, s14a, l1, l3, c10, c8, eq_self, one0, if_true, if_false, not_true_eq_false, not_false_eq_true, true_implies, false_implies, implies_true, and_true, true_and]
        have eM : B_M_promote fz (nI 1) m = (-6, m) := by simp only [B_M_promote, vN_1, mN_1, nO_1, pO_1, ixb_1, vpb_1, om_1, ixb_0, vpb_0, s3b, s11b, s5b, s13b, s6b, s14b, s6a, s14a, l1, l3, c10, c8, eq_self, one0, if_true, if_false, not_true_eq_false, not_false_eq_true, true_implies, false_implies, implies_true, and_true, true_and]
        refine ⟨by simp only [P_V_promote, pT_isNode, pT_nodeOf, pT_peerOf, vN_1, mN_1, nO_1, pO_1, ixb_1, vpb_1, om_1, ixb_0, vpb_0, s3b, s11b, s5b, s13b, s6b, s14b, s6a, s14a, l1, l3, c10, c8, P_V_promote_56, eq_self, one0, if_true, if_false, not_true_eq_false, not_false_eq_true, true_implies, false_implies, implies_true, and_true, true_and], by simp only [P_M_promote, pT_isNodeM, vN_1, mN_1, nO_1, pO_1, ixb_1, vpb_1, om_1, ixb_0, vpb_0, s3b, s11b, s5b, s13b, s6b, s14b, s6a, s14a, l1, l3, c10, c8, P_M_promote_54, eq_self, one0, if_true, if_false, not_true_eq_false, not_false_eq_true, true_implies, false_implies, implies_true, and_true, true_and], ?_⟩
        rw [eV, eM]
        exact RS.same hJ0 _
theorem S_demote (fz : Nat) (hz : 400 ≤ fz) {t : Nat} (ht : t ≤ 600) {v m : HH} (hJ : J2 t v m) (x : Int32) : P_V_demote fz x v ∧ P_M_demote fz x m ∧ RS t (B_V_demote fz x v) (B_M_demote fz x m) := by
  rcases ndc x with ⟨h0, h1⟩ | rfl | rfl
  · have eV : B_V_demote fz x v = (-1, v) := by simp only [B_V_demote, vN_n fz v h0 h1, eq_self, one0, if_true, if_false, not_true_eq_false, not_false_eq_true, true_implies, false_implies, implies_true, and_true, true_and]
    have eM : B_M_demote fz x m = (-1, m) := by simp only [B_M_demote, mN_n fz m h0 h1, eq_self, one0, if_true, if_false, not_true_eq_false, not_false_eq_true, true_implies, false_implies, implies_true, and_true, true_and]
    refine ⟨by simp only [P_V_demote, pT_isNode, vN_n fz v h0 h1, eq_self, one0, if_true, if_false, not_true_eq_false, not_false_eq_true, true_implies, false_implies, implies_true, and_true, true_and], by simp only [P_M_demote, pT_isNodeM, mN_n fz m h0 h1, eq_self, one0, if_true, if_false, not_true_eq_false, not_false_eq_true, true_implies, false_implies, implies_true, and_true, true_and], ?_⟩
    rw [eV, eM]
    exact RS.same hJ _
  · have hJ0 := hJ
    obtain ⟨n, own, blk, ep, ft, sc, lk, gr, mp, un, q, wt, wx, lg, us, pv, hR, hI⟩ := hJ
    have hR' := hR
    obtain ⟨hL, hT, hX, hS0, hM0, hD0, hR0, hA0, hW0, hG0, hU0, hE0, hS1, hM1, hD1, hR1, hA1, hW1, hG1, hU1, hE1⟩ := hR'
    have hI' := hI
    obtain ⟨iT, iG, iN0, iN1, iQ0, iQ1, iR0, iR1, iW, iC, iK, iE⟩ := hI'
    obtain ⟨s0a, s1a, s2a, s3a, s4a, s5a, s6a, s7a, s8a, s9a, s10a, s11a, s12a, s13a, s14a, s15a, s16a⟩ := hS0
    obtain ⟨s0b, s1b, s2b, s3b, s4b, s5b, s6b, s7b, s8b, s9b, s10b, s11b, s12b, s13b, s14b, s15b, s16b⟩ := hS1
    obtain ⟨l1, l2, l3, l4⟩ := hL
    obtain ⟨pV, bV⟩ := cp_V fz hz hT iT (b := 0) (by decide)
    obtain ⟨pM, bM⟩ := cp_M fz hz hT iT (b := 0) (f := 0) (t := 31) (by decide) (by decide) (by decide) li0 li31
    rw [cp_all iT] at bM
    by_cases c10 : sc 10 0 = 0
    · have eV : B_V_demote fz (nI 0) v = (-2, v) := by simp only [B_V_demote, vN_0, mN_0, nO_0, pO_0, ixb_0, vpb_0, om_0, ixb_1, vpb_1, s5a, s13a, s6a, s14a, c10, eq_self, one0, if_true, if_false, not_true_eq_false, not_false_eq_true, true_implies, false_implies, implies_true, and_true, true_and]
      have eM : B_M_demote fz (nI 0) m = (-2, m) := by simp only [B_M_demote, vN_0, mN_0, nO_0, pO_0, ixb_0, vpb_0, om_0, ixb_1, vpb_1, s5a, s13a, s6a, s14a, c10, eq_self, one0, if_true, if_false, not_true_eq_false, not_false_eq_true, true_implies, false_implies, implies_true, and_true, true_and]
      refine ⟨by simp only [P_V_demote, pT_isNode, pT_nodeOf, pT_peerOf, vN_0, mN_0, nO_0, pO_0, ixb_0, vpb_0, om_0, ixb_1, vpb_1, s5a, s13a, s6a, s14a, c10, eq_self, one0, if_true, if_false, not_true_eq_false, not_false_eq_true, true_implies, false_implies, implies_true, and_true, true_and], by simp only [P_M_demote, pT_isNodeM, vN_0, mN_0, nO_0, pO_0, ixb_0, vpb_0, om_0, ixb_1, vpb_1, s5a, s13a, s6a, s14a, c10, eq_self, one0, if_true, if_false, not_true_eq_false, not_false_eq_true, true_implies, false_implies, implies_true, and_true, true_and], ?_⟩
      rw [eV, eM]
      exact RS.same hJ0 _
    · by_cases c11 : sc 11 0 = 0
      · have eV : B_V_demote fz (nI 0) v = (-3, v) := by simp only [B_V_demote, vN_0, mN_0, nO_0, pO_0, ixb_0, vpb_0, om_0, ixb_1, vpb_1, s5a, s13a, s6a, s14a, c10, c11, eq_self, one0, if_true, if_false, not_true_eq_false, not_false_eq_true, true_implies, false_implies, implies_true, and_true, true_and]
        have eM : B_M_demote fz (nI 0) m = (-3, m) := by simp only [B_M_demote, vN_0, mN_0, nO_0, pO_0, ixb_0, vpb_0, om_0, ixb_1, vpb_1, s5a, s13a, s6a, s14a, c10, c11, eq_self, one0, if_true, if_false, not_true_eq_false, not_false_eq_true, true_implies, false_implies, implies_true, and_true, true_and]
        refine ⟨by simp only [P_V_demote, pT_isNode, pT_nodeOf, pT_peerOf, vN_0, mN_0, nO_0, pO_0, ixb_0, vpb_0, om_0, ixb_1, vpb_1, s5a, s13a, s6a, s14a, c10, c11, eq_self, one0, if_true, if_false, not_true_eq_false, not_false_eq_true, true_implies, false_implies, implies_true, and_true, true_and], by simp only [P_M_demote, pT_isNodeM, vN_0, mN_0, nO_0, pO_0, ixb_0, vpb_0, om_0, ixb_1, vpb_1, s5a, s13a, s6a, s14a, c10, c11, eq_self, one0, if_true, if_false, not_true_eq_false, not_false_eq_true, true_implies, false_implies, implies_true, and_true, true_and], ?_⟩
        rw [eV, eM]
        exact RS.same hJ0 _
      · by_cases cp : nI (cnP n own ft 0) ≤ 0
        · have eV : B_V_demote fz (nI 0) v = (0, u2 v 1 11 0) := by simp only [B_V_demote, vN_0, mN_0, nO_0, pO_0, ixb_0, vpb_0, om_0, ixb_1, vpb_1, s5a, s13a, s6a, s14a, c10, c11, bV, cp, eq_self, one0, if_true, if_false, not_true_eq_false, not_false_eq_true, true_implies, false_implies, implies_true, and_true, true_and]
          have eM : B_M_demote fz (nI 0) m = (0, u2 m 43 0 0) := by simp only [B_M_demote, vN_0, mN_0, nO_0, pO_0, ixb_0, vpb_0, om_0, ixb_1, vpb_1, s5a, s13a, s6a, s14a, c10, c11, bM, cp, eq_self, one0, if_true, if_false, not_true_eq_false, not_false_eq_true, true_implies, false_implies, implies_true, and_true, true_and]
          refine ⟨by simp only [P_V_demote, pT_isNode, pT_nodeOf, vN_0, mN_0, nO_0, pO_0, ixb_0, vpb_0, om_0, ixb_1, vpb_1, s5a, s13a, s6a, s14a, c10, c11, pV, eq_self, one0, if_true, if_false, not_true_eq_false, not_false_eq_true, true_implies, false_implies, implies_true, and_true, true_and], by simp only [P_M_demote, pT_isNodeM, vN_0, mN_0, nO_0, pO_0, ixb_0, vpb_0, om_0, ixb_1, vpb_1, s5a, s13a, s6a, s14a, c10, c11, pM, eq_self, one0, if_true, if_false, not_true_eq_false, not_false_eq_true, true_implies, false_implies, implies_true, and_true, true_and], ?_⟩
          rw [eV, eM]
          exact ⟨rfl, n, own, blk, ep, ft, u2 sc 11 0 0, lk, gr, mp, un, q, wt, wx, lg, us, pv, r_set_11_0 hR 0, hI.mono (by omega)⟩
        · have eV : B_V_demote fz (nI 0) v = (-5, v) := by simp only [B_V_demote, vN_0, mN_0, nO_0, pO_0, ixb_0, vpb_0, om_0, ixb_1, vpb_1, s5a, s13a, s6a, s14a, c10, c11, bV, bM, cp, pV, pM, eq_self, one0, if_true, if_false, not_true_eq_false, not_false_eq_true, true_implies, false_implies, implies_true, and_true, true_and]
          have eM : B_M_demote fz (nI 0) m = (-5, m) := by simp only [B_M_demote, vN_0, mN_0, nO_0, pO_0, ixb_0, vpb_0, om_0, ixb_1, vpb_1, s5a, s13a, s6a, s14a, c10, c11, bV, bM, cp, pV, pM, eq_self, one0, if_true, if_false, not_true_eq_false, not_false_eq_true, true_implies, false_implies, implies_true, and_true, true_and]
          refine ⟨by simp only [P_V_demote, pT_isNode, pT_nodeOf, pT_peerOf, vN_0, mN_0, nO_0, pO_0, ixb_0, vpb_0, om_0, ixb_1, vpb_1, s5a, s13a, s6a, s14a, c10, c11, bV, bM, cp, pV, pM, eq_self, one0, if_true, if_false, not_true_eq_false, not_false_eq_true, true_implies, false_implies, implies_true, and_true, true_and], by simp only [P_M_demote, pT_isNodeM, vN_0, mN_0, nO_0, pO_0, ixb_0, vpb_0, om_0, ixb_1, vpb_1, s5a, s13a, s6a, s14a, c10, c11, bV, bM, cp, pV, pM, eq_self, one0, if_true, if_false, not_true_eq_false, not_false_eq_true, true_implies, false_implies, implies_true, and_true, true_and], ?_⟩
          rw [eV, eM]
          exact RS.same hJ0 _
  · have hJ0 := hJ
    obtain ⟨n, own, blk, ep, ft, sc, lk, gr, mp, un, q, wt, wx, lg, us, pv, hR, hI⟩ := hJ
    have hR' := hR
    obtain ⟨hL, hT, hX, hS0, hM0, hD0, hR0, hA0, hW0, hG0, hU0, hE0, hS1, hM1, hD1, hR1, hA1, hW1, hG1, hU1, hE1⟩ := hR'
    have hI' := hI
    obtain ⟨iT, iG, iN0, iN1, iQ0, iQ1, iR0, iR1, iW, iC, iK, iE⟩ := hI'
    obtain ⟨s0a, s1a, s2a, s3a, s4a, s5a, s6a, s7a, s8a, s9a, s10a, s11a, s12a, s13a, s14a, s15a, s16a⟩ := hS0
    obtain ⟨s0b, s1b, s2b, s3b, s4b, s5b, s6b, s7b, s8b, s9b, s10b, s11b, s12b, s13b, s14b, s15b, s16b⟩ := hS1
    obtain ⟨l1, l2, l3, l4⟩ := hL
    obtain ⟨pV, bV⟩ := cp_V fz hz hT iT (b := 1) (by decide)
    obtain ⟨pM, bM⟩ := cp_M fz hz hT iT (b := 1) (f := 0) (t := 31) (by decide) (by decide) (by decide) li0 li31
    rw [cp_all iT] at bM
    by_cases c10 : sc 10 1 = 0
    · have eV : B_V_demote fz (nI 1) v = (-2, v) := by simp only [B_V_demote, vN_1, mN_1, nO_1, pO_1, ixb_1, vpb_1, om_1, ixb_0, vpb_0, s5b, s13b, s6b, s14b, c10, eq_self, one0, if_true, if_false, not_true_eq_false, not_false_eq_true, true_implies, false_implies, implies_true, and_true, true_and]
      have eM : B_M_demote fz (nI 1) m = (-2, m) := by simp only [B_M_demote, vN_1, mN_1, nO_1, pO_1, ixb_1, vpb_1, om_1, ixb_0, vpb_0, s5b, s13b, s6b, s14b, c10, eq_self, one0, if_true, if_false, not_true_eq_false, not_false_eq_true, true_implies, false_implies, implies_true, and_true, true_and]
      refine ⟨by simp only [P_V_demote, pT_isNode, pT_nodeOf, pT_peerOf, vN_1, mN_1, nO_1, pO_1, ixb_1, vpb_1, om_1, ixb_0, vpb_0, s5b, s13b, s6b, s14b, c10, eq_self, one0, if_true, if_false, not_true_eq_false, not_false_eq_true, true_implies, false_implies, implies_true, and_true, true_and], by simp only [P_M_demote, pT_isNodeM, vN_1, mN_1, nO_1, pO_1, ixb_1, vpb_1, om_1, ixb_0, vpb_0, s5b, s13b, s6b, s14b, c10, eq_self, one0, if_true, if_false, not_true_eq_false, not_false_eq_true, true_implies, false_implies, implies_true, and_true, true_and], ?_⟩
      rw [eV, eM]
      exact RS.same hJ0 _
    · by_cases c11 : sc 11 1 = 0
      · have eV : B_V_demote fz (nI 1) v = (-3, v) := by simp only [B_V_demote, vN_1, mN_1, nO_1, pO_1, ixb_1, vpb_1, om_1, ixb_0, vpb_0, s5b, s13b, s6b, s14b, c10, c11, eq_self, one0, if_true, if_false, not_true_eq_false, not_false_eq_true, true_implies, false_implies, implies_true, and_true, true_and]
        have eM : B_M_demote fz (nI 1) m = (-3, m) := by simp only [B_M_demote, vN_1, mN_1, nO_1, pO_1, ixb_1, vpb_1, om_1, ixb_0, vpb_0, s5b, s13b, s6b, s14b, c10, c11, eq_self, one0, if_true, if_false, not_true_eq_false, not_false_eq_true, true_implies, false_implies, implies_true, and_true, true_and]
        refine ⟨by simp only [P_V_demote, pT_isNode, pT_nodeOf, pT_peerOf, vN_1, mN_1, nO_1, pO_1, ixb_1, vpb_1, om_1, ixb_0, vpb_0, s5b, s13b, s6b, s14b, c10, c11, eq_self, one0, if_true, if_false, not_true_eq_false, not_false_eq_true, true_implies, false_implies, implies_true, and_true, true_and], by simp only [P_M_demote, pT_isNodeM, vN_1, mN_1, nO_1, pO_1, ixb_1, vpb_1, om_1, ixb_0, vpb_0, s5b, s13b, s6b, s14b, c10, c11, eq_self, one0, if_true, if_false, not_true_eq_false, not_false_eq_true, true_implies, false_implies, implies_true, and_true, true_and], ?_⟩
        rw [eV, eM]
        exact RS.same hJ0 _
      · by_cases cp : nI (cnP n own ft 1) ≤ 0
        · have eV : B_V_demote fz (nI 1) v = (0, u2 v 11 11 0) := by simp only [B_V_demote, vN_1, mN_1, nO_1, pO_1, ixb_1, vpb_1, om_1, ixb_0, vpb_0, s5b, s13b, s6b, s14b, c10, c11, bV, cp, eq_self, one0, if_true, if_false, not_true_eq_false, not_false_eq_true, true_implies, false_implies, implies_true, and_true, true_and]
          have eM : B_M_demote fz (nI 1) m = (0, u2 m 43 1 0) := by simp only [B_M_demote, vN_1, mN_1, nO_1, pO_1, ixb_1, vpb_1, om_1, ixb_0, vpb_0, s5b, s13b, s6b, s14b, c10, c11, bM, cp, eq_self, one0, if_true, if_false, not_true_eq_false, not_false_eq_true, true_implies, false_implies, implies_true, and_true, true_and]
          refine ⟨by simp only [P_V_demote, pT_isNode, pT_nodeOf, vN_1, mN_1, nO_1, pO_1, ixb_1, vpb_1, om_1, ixb_0, vpb_0, s5b, s13b, s6b, s14b, c10, c11, pV, eq_self, one0, if_true, if_false, not_true_eq_false, not_false_eq_true, true_implies, false_implies, implies_true, and_true, true_and], by simp only [P_M_demote, pT_isNodeM, vN_1, mN_1, nO_1, pO_1, ixb_1, vpb_1, om_1, ixb_0, vpb_0, s5b, s13b, s6b, s14b, c10, c11, pM, eq_self, one0, if_true, if_false, not_true_eq_false, not_false_eq_true, true_implies, false_implies, implies_true, and_true, true_and], ?_⟩
          rw [eV, eM]
          exact ⟨rfl, n, own, blk, ep, ft, u2 sc 11 1 0, lk, gr, mp, un, q, wt, wx, lg, us, pv, r_set_11_1 hR 0, hI.mono (by omega)⟩
        · have eV : B_V_demote fz (nI 1) v = (-5, v) := by simp only [B_V_demote, vN_1, mN_1, nO_1, pO_1, ixb_1, vpb_1, om_1, ixb_0, vpb_0, s5b, s13b, s6b, s14b, c10, c11, bV, bM, cp, pV, pM, eq_self, one0, if_true, if_false, not_true_eq_false, not_false_eq_true, true_implies, false_implies, implies_true, and_true, true_and]
          have eM : B_M_demote fz (nI 1) m = (-5, m) := by simp only [B_M_demote, vN_1, mN_1, nO_1, pO_1, ixb_1, vpb_1, om_1, ixb_0, vpb_0, s5b, s13b, s6b, s14b, c10, c11, bV, bM, cp, pV, pM, eq_self, one0, if_true, if_false, not_true_eq_false, not_false_eq_true, true_implies, false_implies, implies_true, and_true, true_and]
          refine ⟨by simp only [P_V_demote, pT_isNode, pT_nodeOf, pT_peerOf, vN_1, mN_1, nO_1, pO_1, ixb_1, vpb_1, om_1, ixb_0, vpb_0, s5b, s13b, s6b, s14b, c10, c11, bV, bM, cp, pV, pM, eq_self, one0, if_true, if_false, not_true_eq_false, not_false_eq_true, true_implies, false_implies, implies_true, and_true, true_and], by simp only [P_M_demote, pT_isNodeM, vN_1, mN_1, nO_1, pO_1, ixb_1, vpb_1, om_1, ixb_0, vpb_0, s5b, s13b, s6b, s14b, c10, c11, bV, bM, cp, pV, pM, eq_self, one0, if_true, if_false, not_true_eq_false, not_false_eq_true, true_implies, false_implies, implies_true, and_true, true_and], ?_⟩
          rw [eV, eM]
          exact RS.same hJ0 _
end
section
theorem S_state (fz : Nat) (hz : 400 ≤ fz) {t : Nat} {v m : HH} (hJ : J2 t v m) (x : Int32) : P_V_state fz x v ∧ P_M_state fz x m ∧ B_V_state fz x v = B_M_state fz x m := by
  rcases ndc x with ⟨h0, h1⟩ | rfl | rfl
  · exact ⟨by simp only [P_V_state, pT_isNode, vN_n fz v h0 h1, eq_self, one0, if_true, if_false, not_true_eq_false, not_false_eq_true, true_implies, false_implies, implies_true, and_true, true_and], by simp only [P_M_state, pT_isNodeM, mN_n fz m h0 h1, eq_self, one0, if_true, if_false, not_true_eq_false, not_false_eq_true, true_implies, false_implies, implies_true, and_true, true_and], by simp only [B_V_state, B_M_state, vN_n fz v h0 h1, mN_n fz m h0 h1, eq_self, one0, if_true, if_false, not_true_eq_false, not_false_eq_true, true_implies, false_implies, implies_true, and_true, true_and]⟩
  · obtain ⟨n, own, blk, ep, ft, sc, lk, gr, mp, un, q, wt, wx, lg, us, pv, hR, hI⟩ := hJ
    have hR' := hR
    obtain ⟨hL, hT, hX, hS0, hM0, hD0, hR0, hA0, hW0, hG0, hU0, hE0, hS1, hM1, hD1, hR1, hA1, hW1, hG1, hU1, hE1⟩ := hR'
    have hI' := hI
    obtain ⟨iT, iG, iN0, iN1, iQ0, iQ1, iR0, iR1, iW, iC, iK, iE⟩ := hI'
    obtain ⟨s0a, s1a, s2a, s3a, s4a, s5a, s6a, s7a, s8a, s9a, s10a, s11a, s12a, s13a, s14a, s15a, s16a⟩ := hS0
    obtain ⟨s0b, s1b, s2b, s3b, s4b, s5b, s6b, s7b, s8b, s9b, s10b, s11b, s12b, s13b, s14b, s15b, s16b⟩ := hS1
    obtain ⟨l1, l2, l3, l4⟩ := hL
    refine ⟨by simp only [P_V_state, P_V_state_27, P_V_state_41, P_V_state_56, P_V_state_72, P_V_state_88, P_V_state_104, P_V_state_120, pT_isNode, pT_nodeOf, eq_self, one0, if_true, if_false, not_true_eq_false, not_false_eq_true, true_implies, false_implies, implies_true, and_true, true_and], by simp only [P_M_state, P_M_state_23, P_M_state_37, P_M_state_52, P_M_state_68, P_M_state_84, P_M_state_100, P_M_state_116, pT_isNodeM, vN_0, mN_0, nO_0, pO_0, ixb_0, vpb_0, om_0, ixb_1, vpb_1, s3a, s11a, s4a, s12a, s5a, s13a, s6a, s14a, s7a, s15a, s8a, s16a, l1, l3, eq_self, one0, if_true, if_false, not_true_eq_false, not_false_eq_true, true_implies, false_implies, implies_true, and_true, true_and], ?_⟩
    simp only [B_V_state, B_V_state_27, B_V_state_41, B_V_state_56, B_V_state_72, B_V_state_88, B_V_state_104, B_V_state_120, B_M_state, B_M_state_23, B_M_state_37, B_M_state_52, B_M_state_68, B_M_state_84, B_M_state_100, B_M_state_116, vN_0, mN_0, nO_0, pO_0, ixb_0, vpb_0, om_0, ixb_1, vpb_1, s3a, s11a, s4a, s12a, s5a, s13a, s6a, s14a, s7a, s15a, s8a, s16a, l1, l3, eq_self, one0, if_true, if_false, not_true_eq_false, not_false_eq_true, true_implies, false_implies, implies_true, and_true, true_and]
  · obtain ⟨n, own, blk, ep, ft, sc, lk, gr, mp, un, q, wt, wx, lg, us, pv, hR, hI⟩ := hJ
    have hR' := hR
    obtain ⟨hL, hT, hX, hS0, hM0, hD0, hR0, hA0, hW0, hG0, hU0, hE0, hS1, hM1, hD1, hR1, hA1, hW1, hG1, hU1, hE1⟩ := hR'
    have hI' := hI
    obtain ⟨iT, iG, iN0, iN1, iQ0, iQ1, iR0, iR1, iW, iC, iK, iE⟩ := hI'
    obtain ⟨s0a, s1a, s2a, s3a, s4a, s5a, s6a, s7a, s8a, s9a, s10a, s11a, s12a, s13a, s14a, s15a, s16a⟩ := hS0
    obtain ⟨s0b, s1b, s2b, s3b, s4b, s5b, s6b, s7b, s8b, s9b, s10b, s11b, s12b, s13b, s14b, s15b, s16b⟩ := hS1
    obtain ⟨l1, l2, l3, l4⟩ := hL
    refine ⟨by simp only [P_V_state, P_V_state_27, P_V_state_41, P_V_state_56, P_V_state_72, P_V_state_88, P_V_state_104, P_V_state_120, pT_isNode, pT_nodeOf, eq_self, one0, if_true, if_false, not_true_eq_false, not_false_eq_true, true_implies, false_implies, implies_true, and_true, true_and], by simp only [P_M_state, P_M_state_23, P_M_state_37, P_M_state_52, P_M_state_68, P_M_state_84, P_M_state_100, P_M_state_116, pT_isNodeM, vN_1, mN_1, nO_1, pO_1, ixb_1, vpb_1, om_1, ixb_0, vpb_0, s3b, s11b, s4b, s12b, s5b, s13b, s6b, s14b, s7b, s15b, s8b, s16b, l1, l3, eq_self, one0, if_true, if_false, not_true_eq_false, not_false_eq_true, true_implies, false_implies, implies_true, and_true, true_and], ?_⟩
    simp only [B_V_state, B_V_state_27, B_V_state_41, B_V_state_56, B_V_state_72, B_V_state_88, B_V_state_104, B_V_state_120, B_M_state, B_M_state_23, B_M_state_37, B_M_state_52, B_M_state_68, B_M_state_84, B_M_state_100, B_M_state_116, vN_1, mN_1, nO_1, pO_1, ixb_1, vpb_1, om_1, ixb_0, vpb_0, s3b, s11b, s4b, s12b, s5b, s13b, s6b, s14b, s7b, s15b, s8b, s16b, l1, l3, eq_self, one0, if_true, if_false, not_true_eq_false, not_false_eq_true, true_implies, false_implies, implies_true, and_true, true_and]
theorem shl32 (x : Int64) : x <<< ((32 : Int32).toInt64 &&& 63) = 4294967296 * x := by
  apply Int64.toBitVec_inj.mp
  rw [Int64.toBitVec_mul]
  have e : ((x <<< ((32 : Int32).toInt64 &&& 63)).toBitVec) = x.toBitVec <<< 32 := by
    rw [Int64.toBitVec_shiftLeft]
    have e2 : (((32 : Int32).toInt64 &&& 63).toBitVec.smod (64 : BitVec 64)) = 32#64 := by decide +kernel
    rw [e2]
    rfl
  rw [e]
  apply BitVec.eq_of_toNat_eq
  rw [BitVec.toNat_shiftLeft, BitVec.toNat_mul]
  have e3 : (4294967296 : Int64).toBitVec.toNat = 4294967296 := by decide +kernel
  rw [e3, Nat.shiftLeft_eq, Nat.mul_comm]
theorem S_generation (fz : Nat) (hz : 400 ≤ fz) {t : Nat} {v m : HH} (hJ : J2 t v m) (x : Int32) : P_V_generation fz x v ∧ P_M_generation fz x m ∧ B_V_generation fz x v = B_M_generation fz x m := by
  rcases ndc x with ⟨h0, h1⟩ | rfl | rfl
  · exact ⟨by simp only [P_V_generation, pT_isNode, vN_n fz v h0 h1, eq_self, one0, if_true, if_false, not_true_eq_false, not_false_eq_true, true_implies, false_implies, implies_true, and_true, true_and], by simp only [P_M_generation, pT_isNodeM, mN_n fz m h0 h1, eq_self, one0, if_true, if_false, not_true_eq_false, not_false_eq_true, true_implies, false_implies, implies_true, and_true, true_and], by simp only [B_V_generation, B_M_generation, vN_n fz v h0 h1, mN_n fz m h0 h1, eq_self, one0, if_true, if_false, not_true_eq_false, not_false_eq_true, true_implies, false_implies, implies_true, and_true, true_and]⟩
  · obtain ⟨n, own, blk, ep, ft, sc, lk, gr, mp, un, q, wt, wx, lg, us, pv, hR, hI⟩ := hJ
    have hR' := hR
    obtain ⟨hL, hT, hX, hS0, hM0, hD0, hR0, hA0, hW0, hG0, hU0, hE0, hS1, hM1, hD1, hR1, hA1, hW1, hG1, hU1, hE1⟩ := hR'
    have hI' := hI
    obtain ⟨iT, iG, iN0, iN1, iQ0, iQ1, iR0, iR1, iW, iC, iK, iE⟩ := hI'
    obtain ⟨s0a, s1a, s2a, s3a, s4a, s5a, s6a, s7a, s8a, s9a, s10a, s11a, s12a, s13a, s14a, s15a, s16a⟩ := hS0
    obtain ⟨s0b, s1b, s2b, s3b, s4b, s5b, s6b, s7b, s8b, s9b, s10b, s11b, s12b, s13b, s14b, s15b, s16b⟩ := hS1
    obtain ⟨l1, l2, l3, l4⟩ := hL
    exact ⟨by simp only [P_V_generation, pT_isNode, pT_nodeOf, eq_self, one0, if_true, if_false, not_true_eq_false, not_false_eq_true, true_implies, false_implies, implies_true, and_true, true_and], by simp only [P_M_generation, pT_isNodeM, vN_0, mN_0, nO_0, pO_0, ixb_0, vpb_0, om_0, ixb_1, vpb_1, s1a, s9a, s2a, s10a, eq_self, one0, if_true, if_false, not_true_eq_false, not_false_eq_true, true_implies, false_implies, implies_true, and_true, true_and], by simp only [B_V_generation, B_M_generation, vN_0, mN_0, nO_0, pO_0, ixb_0, vpb_0, om_0, ixb_1, vpb_1, s1a, s9a, s2a, s10a, shl32, eq_self, one0, if_true, if_false, not_true_eq_false, not_false_eq_true, true_implies, false_implies, implies_true, and_true, true_and]⟩
  · obtain ⟨n, own, blk, ep, ft, sc, lk, gr, mp, un, q, wt, wx, lg, us, pv, hR, hI⟩ := hJ
    have hR' := hR
    obtain ⟨hL, hT, hX, hS0, hM0, hD0, hR0, hA0, hW0, hG0, hU0, hE0, hS1, hM1, hD1, hR1, hA1, hW1, hG1, hU1, hE1⟩ := hR'
    have hI' := hI
    obtain ⟨iT, iG, iN0, iN1, iQ0, iQ1, iR0, iR1, iW, iC, iK, iE⟩ := hI'
    obtain ⟨s0a, s1a, s2a, s3a, s4a, s5a, s6a, s7a, s8a, s9a, s10a, s11a, s12a, s13a, s14a, s15a, s16a⟩ := hS0
    obtain ⟨s0b, s1b, s2b, s3b, s4b, s5b, s6b, s7b, s8b, s9b, s10b, s11b, s12b, s13b, s14b, s15b, s16b⟩ := hS1
    obtain ⟨l1, l2, l3, l4⟩ := hL
    exact ⟨by simp only [P_V_generation, pT_isNode, pT_nodeOf, eq_self, one0, if_true, if_false, not_true_eq_false, not_false_eq_true, true_implies, false_implies, implies_true, and_true, true_and], by simp only [P_M_generation, pT_isNodeM, vN_1, mN_1, nO_1, pO_1, ixb_1, vpb_1, om_1, ixb_0, vpb_0, s1b, s9b, s2b, s10b, eq_self, one0, if_true, if_false, not_true_eq_false, not_false_eq_true, true_implies, false_implies, implies_true, and_true, true_and], by simp only [B_V_generation, B_M_generation, vN_1, mN_1, nO_1, pO_1, ixb_1, vpb_1, om_1, ixb_0, vpb_0, s1b, s9b, s2b, s10b, shl32, eq_self, one0, if_true, if_false, not_true_eq_false, not_false_eq_true, true_implies, false_implies, implies_true, and_true, true_and]⟩
theorem S_map (fz : Nat) (hz : 400 ≤ fz) {t : Nat} {v m : HH} (hJ : J2 t v m) (x : Int32) : P_V_map fz x v ∧ P_M_map fz x m ∧ B_V_map fz x v = B_M_map fz x m := by
  rcases ndc x with ⟨h0, h1⟩ | rfl | rfl
  · exact ⟨by simp only [P_V_map, pT_isNode, vN_n fz v h0 h1, eq_self, one0, if_true, if_false, not_true_eq_false, not_false_eq_true, true_implies, false_implies, implies_true, and_true, true_and], by simp only [P_M_map, pT_isNodeM, mN_n fz m h0 h1, eq_self, one0, if_true, if_false, not_true_eq_false, not_false_eq_true, true_implies, false_implies, implies_true, and_true, true_and], by simp only [B_V_map, B_M_map, vN_n fz v h0 h1, mN_n fz m h0 h1, eq_self, one0, if_true, if_false, not_true_eq_false, not_false_eq_true, true_implies, false_implies, implies_true, and_true, true_and]⟩
  · obtain ⟨n, own, blk, ep, ft, sc, lk, gr, mp, un, q, wt, wx, lg, us, pv, hR, hI⟩ := hJ
    have hR' := hR
    obtain ⟨hL, hT, hX, hS0, hM0, hD0, hR0, hA0, hW0, hG0, hU0, hE0, hS1, hM1, hD1, hR1, hA1, hW1, hG1, hU1, hE1⟩ := hR'
    have hI' := hI
    obtain ⟨iT, iG, iN0, iN1, iQ0, iQ1, iR0, iR1, iW, iC, iK, iE⟩ := hI'
    obtain ⟨s0a, s1a, s2a, s3a, s4a, s5a, s6a, s7a, s8a, s9a, s10a, s11a, s12a, s13a, s14a, s15a, s16a⟩ := hS0
    obtain ⟨s0b, s1b, s2b, s3b, s4b, s5b, s6b, s7b, s8b, s9b, s10b, s11b, s12b, s13b, s14b, s15b, s16b⟩ := hS1
    obtain ⟨l1, l2, l3, l4⟩ := hL
    have c := cv_map fz hz (b := 0) (by decide) m
    refine ⟨by simp only [P_V_map, pT_isNode, pT_nodeOf, eq_self, one0, if_true, if_false, not_true_eq_false, not_false_eq_true, true_implies, false_implies, implies_true, and_true, true_and], by simp only [P_M_map, pT_isNodeM, vN_0, mN_0, nO_0, pO_0, ixb_0, vpb_0, om_0, ixb_1, vpb_1, c.1, eq_self, one0, if_true, if_false, not_true_eq_false, not_false_eq_true, true_implies, false_implies, implies_true, and_true, true_and], ?_⟩
    simp only [B_V_map, B_M_map, vN_0, mN_0, nO_0, pO_0, ixb_0, vpb_0, om_0, ixb_1, vpb_1, eq_self, one0, if_true, if_false, not_true_eq_false, not_false_eq_true, true_implies, false_implies, implies_true, and_true, true_and]
    apply b_ext
    intro j hj
    have g := hM0 j hj
    have c2 := c.2 j hj
    rw [b_0, g.2, bi_0] at c2
    rw [g.1]
    cases hm : mp 0 j with
    | true => exact (c2.mpr (Or.inr ⟨Nat.zero_le _, by rw [hm]; decide⟩)).symm
    | false =>
      cases hr : bt (B_M_map_13 fz fz (nI 0) 0 0 m) j with
      | false => rfl
      | true =>
        rw [hr, hm] at c2
        rcases c2.mp rfl with r | r
        · cases r
        · exact absurd rfl r.2
  · obtain ⟨n, own, blk, ep, ft, sc, lk, gr, mp, un, q, wt, wx, lg, us, pv, hR, hI⟩ := hJ
    have hR' := hR
    obtain ⟨hL, hT, hX, hS0, hM0, hD0, hR0, hA0, hW0, hG0, hU0, hE0, hS1, hM1, hD1, hR1, hA1, hW1, hG1, hU1, hE1⟩ := hR'
    have hI' := hI
    obtain ⟨iT, iG, iN0, iN1, iQ0, iQ1, iR0, iR1, iW, iC, iK, iE⟩ := hI'
    obtain ⟨s0a, s1a, s2a, s3a, s4a, s5a, s6a, s7a, s8a, s9a, s10a, s11a, s12a, s13a, s14a, s15a, s16a⟩ := hS0
    obtain ⟨s0b, s1b, s2b, s3b, s4b, s5b, s6b, s7b, s8b, s9b, s10b, s11b, s12b, s13b, s14b, s15b, s16b⟩ := hS1
    obtain ⟨l1, l2, l3, l4⟩ := hL
    have c := cv_map fz hz (b := 1) (by decide) m
    refine ⟨by simp only [P_V_map, pT_isNode, pT_nodeOf, eq_self, one0, if_true, if_false, not_true_eq_false, not_false_eq_true, true_implies, false_implies, implies_true, and_true, true_and], by simp only [P_M_map, pT_isNodeM, vN_1, mN_1, nO_1, pO_1, ixb_1, vpb_1, om_1, ixb_0, vpb_0, c.1, eq_self, one0, if_true, if_false, not_true_eq_false, not_false_eq_true, true_implies, false_implies, implies_true, and_true, true_and], ?_⟩
    simp only [B_V_map, B_M_map, vN_1, mN_1, nO_1, pO_1, ixb_1, vpb_1, om_1, ixb_0, vpb_0, eq_self, one0, if_true, if_false, not_true_eq_false, not_false_eq_true, true_implies, false_implies, implies_true, and_true, true_and]
    apply b_ext
    intro j hj
    have g := hM1 j hj
    have c2 := c.2 j hj
    rw [b_0, g.2, bi_0] at c2
    rw [g.1]
    cases hm : mp 1 j with
    | true => exact (c2.mpr (Or.inr ⟨Nat.zero_le _, by rw [hm]; decide⟩)).symm
    | false =>
      cases hr : bt (B_M_map_13 fz fz (nI 1) 0 0 m) j with
      | false => rfl
      | true =>
        rw [hr, hm] at c2
        rcases c2.mp rfl with r | r
        · cases r
        · exact absurd rfl r.2
theorem blc (y : Int32) : (∃ j, j < 32 ∧ y = nI j) ∨ (∀ (fz : Nat) (h : HH), B_V_isBlock fz y h = 0 ∧ B_M_isBlock fz y h = 0) := by
  rcases pk_ix y (n := 32) (by decide) with h | h | h
  · exact Or.inr (fun fz k => ⟨by rw [B_V_isBlock, if_pos h], by rw [B_M_isBlock, if_pos h]⟩)
  · refine Or.inr (fun fz k => ⟨?_, ?_⟩)
    · unfold B_V_isBlock
      by_cases h0 : y < 0
      · rw [if_pos h0]
      · rw [if_neg h0, if_pos (by rw [li32]; exact h)]
    · unfold B_M_isBlock
      by_cases h0 : y < 0
      · rw [if_pos h0]
      · rw [if_neg h0, if_pos (Int32.lt_of_lt_of_le (show (31 : Int32) < 32 by decide) (show (32 : Int32) ≤ y by rw [li32]; exact h))]
  · exact Or.inl h
theorem blk_V (fz : Nat) (h : HH) {j : Nat} (hj : j < 32) : B_V_isBlock fz (nI j) h = 1 := by rw [B_V_isBlock, if_neg (nI_pos (by omega)), if_neg (by rw [li32]; exact nI_ge (by omega) (by omega))]
theorem blk_M (fz : Nat) (h : HH) {j : Nat} (hj : j < 32) : B_M_isBlock fz (nI j) h = 1 := by rw [B_M_isBlock, if_neg (nI_pos (by omega)), if_neg (by rw [li31]; exact nI_nlt (by omega) (by omega))]
theorem pT_isBlock (fz : Nat) (x : Int32) (h : HH) : P_V_isBlock fz x h := by simp [P_V_isBlock]
theorem pT_isBlockM (fz : Nat) (x : Int32) (h : HH) : P_M_isBlock fz x h := by simp [P_M_isBlock]
theorem S_disk (fz : Nat) (hz : 400 ≤ fz) {t : Nat} {v m : HH} (hJ : J2 t v m) (x : Int32) (y : Int32) : P_V_disk fz x y v ∧ P_M_disk fz x y m ∧ B_V_disk fz x y v = B_M_disk fz x y m := by
  rcases ndc x with ⟨h0, h1⟩ | rfl | rfl
  · exact ⟨by simp only [P_V_disk, pT_isNode, vN_n fz v h0 h1, eq_self, one0, if_true, if_false, not_true_eq_false, not_false_eq_true, true_implies, false_implies, implies_true, and_true, true_and], by simp only [P_M_disk, pT_isNodeM, mN_n fz m h0 h1, eq_self, one0, if_true, if_false, not_true_eq_false, not_false_eq_true, true_implies, false_implies, implies_true, and_true, true_and], by simp only [B_V_disk, B_M_disk, vN_n fz v h0 h1, mN_n fz m h0 h1, eq_self, one0, if_true, if_false, not_true_eq_false, not_false_eq_true, true_implies, false_implies, implies_true, and_true, true_and]⟩
  · rcases blc y with ⟨j, hj, rfl⟩ | hb
    · obtain ⟨n, own, blk, ep, ft, sc, lk, gr, mp, un, q, wt, wx, lg, us, pv, hR, hI⟩ := hJ
      obtain ⟨hL, hT, hX, hS0, hM0, hD0, hR0, hA0, hW0, hG0, hU0, hE0, hS1, hM1, hD1, hR1, hA1, hW1, hG1, hU1, hE1⟩ := hR
      have hxj : ix (nI j) = j := nI_clamp (by omega)
      have hvj : vp_in (nI j) 32 := vp_in_nI hj (by decide)
      have hx : ix (nI (32 * 0 + j)) = 32 * 0 + j := nI_clamp (by omega)
      have hv : vp_in (nI (32 * 0 + j)) 64 := vp_in_nI (by omega) (by decide)
      have g := hD0 j hj
      refine ⟨by simp only [P_V_disk, pT_isNode, pT_isBlock, pT_nodeOf, hvj, eq_self, one0, if_true, if_false, not_true_eq_false, not_false_eq_true, true_implies, false_implies, implies_true, and_true, true_and], by simp only [P_M_disk, pT_isNodeM, pT_isBlockM, x32, hv, eq_self, one0, if_true, if_false, not_true_eq_false, not_false_eq_true, true_implies, false_implies, implies_true, and_true, true_and], ?_⟩
      simp only [B_V_disk, B_M_disk, vN_0, mN_0, nO_0, pO_0, ixb_0, vpb_0, om_0, ixb_1, vpb_1, blk_V fz v hj, blk_M fz m hj, x32, hx, hxj, eq_self, one0, if_true, if_false, not_true_eq_false, not_false_eq_true, true_implies, false_implies, implies_true, and_true, true_and]
      exact g
    · exact ⟨by simp only [P_V_disk, pT_isNode, pT_isBlock, vN_0, mN_0, nO_0, pO_0, ixb_0, vpb_0, om_0, ixb_1, vpb_1, (hb fz v).1, eq_self, one0, if_true, if_false, not_true_eq_false, not_false_eq_true, true_implies, false_implies, implies_true, and_true, true_and], by simp only [P_M_disk, pT_isNodeM, pT_isBlockM, vN_0, mN_0, nO_0, pO_0, ixb_0, vpb_0, om_0, ixb_1, vpb_1, (hb fz m).2, eq_self, one0, if_true, if_false, not_true_eq_false, not_false_eq_true, true_implies, false_implies, implies_true, and_true, true_and], by simp only [B_V_disk, B_M_disk, vN_0, mN_0, nO_0, pO_0, ixb_0, vpb_0, om_0, ixb_1, vpb_1, (hb fz v).1, (hb fz m).2, eq_self, one0, if_true, if_false, not_true_eq_false, not_false_eq_true, true_implies, false_implies, implies_true, and_true, true_and]⟩
  · rcases blc y with ⟨j, hj, rfl⟩ | hb
    · obtain ⟨n, own, blk, ep, ft, sc, lk, gr, mp, un, q, wt, wx, lg, us, pv, hR, hI⟩ := hJ
      obtain ⟨hL, hT, hX, hS0, hM0, hD0, hR0, hA0, hW0, hG0, hU0, hE0, hS1, hM1, hD1, hR1, hA1, hW1, hG1, hU1, hE1⟩ := hR
      have hxj : ix (nI j) = j := nI_clamp (by omega)
      have hvj : vp_in (nI j) 32 := vp_in_nI hj (by decide)
      have hx : ix (nI (32 * 1 + j)) = 32 * 1 + j := nI_clamp (by omega)
      have hv : vp_in (nI (32 * 1 + j)) 64 := vp_in_nI (by omega) (by decide)
      have g := hD1 j hj
      refine ⟨by simp only [P_V_disk, pT_isNode, pT_isBlock, pT_nodeOf, hvj, eq_self, one0, if_true, if_false, not_true_eq_false, not_false_eq_true, true_implies, false_implies, implies_true, and_true, true_and], by simp only [P_M_disk, pT_isNodeM, pT_isBlockM, x32, hv, eq_self, one0, if_true, if_false, not_true_eq_false, not_false_eq_true, true_implies, false_implies, implies_true, and_true, true_and], ?_⟩
      simp only [B_V_disk, B_M_disk, vN_1, mN_1, nO_1, pO_1, ixb_1, vpb_1, om_1, ixb_0, vpb_0, blk_V fz v hj, blk_M fz m hj, x32, hx, hxj, eq_self, one0, if_true, if_false, not_true_eq_false, not_false_eq_true, true_implies, false_implies, implies_true, and_true, true_and]
      exact g
    · exact ⟨by simp only [P_V_disk, pT_isNode, pT_isBlock, vN_1, mN_1, nO_1, pO_1, ixb_1, vpb_1, om_1, ixb_0, vpb_0, (hb fz v).1, eq_self, one0, if_true, if_false, not_true_eq_false, not_false_eq_true, true_implies, false_implies, implies_true, and_true, true_and], by simp only [P_M_disk, pT_isNodeM, pT_isBlockM, vN_1, mN_1, nO_1, pO_1, ixb_1, vpb_1, om_1, ixb_0, vpb_0, (hb fz m).2, eq_self, one0, if_true, if_false, not_true_eq_false, not_false_eq_true, true_implies, false_implies, implies_true, and_true, true_and], by simp only [B_V_disk, B_M_disk, vN_1, mN_1, nO_1, pO_1, ixb_1, vpb_1, om_1, ixb_0, vpb_0, (hb fz v).1, (hb fz m).2, eq_self, one0, if_true, if_false, not_true_eq_false, not_false_eq_true, true_implies, false_implies, implies_true, and_true, true_and]⟩
theorem S_fate (fz : Nat) (hz : 400 ≤ fz) {t : Nat} {v m : HH} (hJ : J2 t v m) (x : Int32) : P_V_fate fz x v ∧ P_M_fate fz x m ∧ B_V_fate fz x v = B_M_fate fz x m := by
  obtain ⟨n, own, blk, ep, ft, sc, lk, gr, mp, un, q, wt, wx, lg, us, pv, hR, hI⟩ := hJ
  have hR' := hR
  obtain ⟨hL, hT, hX, hS0, hM0, hD0, hR0, hA0, hW0, hG0, hU0, hE0, hS1, hM1, hD1, hR1, hA1, hW1, hG1, hU1, hE1⟩ := hR'
  have hI' := hI
  obtain ⟨iT, iG, iN0, iN1, iQ0, iQ1, iR0, iR1, iW, iC, iK, iE⟩ := hI'
  obtain ⟨s0a, s1a, s2a, s3a, s4a, s5a, s6a, s7a, s8a, s9a, s10a, s11a, s12a, s13a, s14a, s15a, s16a⟩ := hS0
  obtain ⟨s0b, s1b, s2b, s3b, s4b, s5b, s6b, s7b, s8b, s9b, s10b, s11b, s12b, s13b, s14b, s15b, s16b⟩ := hS1
  obtain ⟨l1, l2, l3, l4⟩ := hL
  have a1 := hT.1
  have a2 := hT.2.1
  by_cases c1 : x < 1
  · exact ⟨by simp only [P_V_fate, P_T_has, B_T_has, c1, eq_self, one0, if_true, if_false, not_true_eq_false, not_false_eq_true, true_implies, false_implies, implies_true, and_true, true_and], by simp only [P_M_fate, c1, eq_self, one0, if_true, if_false, not_true_eq_false, not_false_eq_true, true_implies, false_implies, implies_true, and_true, true_and], by simp only [B_V_fate, B_T_has, B_M_fate, c1, eq_self, one0, if_true, if_false, not_true_eq_false, not_false_eq_true, true_implies, false_implies, implies_true, and_true, true_and]⟩
  · by_cases c2 : nI n < x
    · exact ⟨by simp only [P_V_fate, P_T_has, B_T_has, a1, c1, c2, eq_self, one0, if_true, if_false, not_true_eq_false, not_false_eq_true, true_implies, false_implies, implies_true, and_true, true_and], by simp only [P_M_fate, a2, c1, c2, eq_self, one0, if_true, if_false, not_true_eq_false, not_false_eq_true, true_implies, false_implies, implies_true, and_true, true_and], by simp only [B_V_fate, B_T_has, B_M_fate, a1, a2, c1, c2, eq_self, one0, if_true, if_false, not_true_eq_false, not_false_eq_true, true_implies, false_implies, implies_true, and_true, true_and]⟩
    · have hn := iT.1
      rcases pk_ix x (n := n + 1) (by omega) with h | h | ⟨w, hw, rfl⟩
      · exact absurd (Int32.lt_trans h (by decide)) c1
      · exact absurd (Int32.lt_of_lt_of_le (nI_lt (by omega) (by omega)) h) c2
      · have hw1 : 1 ≤ w := by
          refine Nat.le_of_not_lt (fun r => c1 ?_)
          rw [li1]
          exact nI_lt (by omega) (by omega)
        have hx : ix (nI w) = w := nI_clamp (by omega)
        have hv : vp_in (nI w) 301 := vp_in_nI (by omega) (by decide)
        obtain ⟨⟨e1, e2, e3, e4, e5⟩, f1, f2, f3, f4⟩ := hT.2.2.2.2 w hw1 (by omega)
        exact ⟨by simp only [P_V_fate, P_T_has, B_T_has, a1, c1, c2, hv, eq_self, one0, if_true, if_false, not_true_eq_false, not_false_eq_true, true_implies, false_implies, implies_true, and_true, true_and], by simp only [P_M_fate, a2, c1, c2, hv, eq_self, one0, if_true, if_false, not_true_eq_false, not_false_eq_true, true_implies, false_implies, implies_true, and_true, true_and], by simp only [B_V_fate, B_T_has, B_M_fate, a1, a2, c1, c2, hx, e5, f4, eq_self, one0, if_true, if_false, not_true_eq_false, not_false_eq_true, true_implies, false_implies, implies_true, and_true, true_and]⟩
theorem Inv_down {t : Nat} {n : Nat} {own blk ep ft : Nat → Nat} {sc : HH} {lk gr : Int32} {mp un : Nat → Nat → Bool} {q : Nat → List MSG} {wt : Nat → List Nat} {wx : Nat → Bool} {pv : Nat → Nat} (iT : IT n own blk ep ft) (iG : ∃ g, gr = nI g ∧ 1 ≤ g ∧ g ≤ 1 + 301 * t) (hf : ∀ w, 1 ≤ w → w ≤ n → ft w ≠ 1) (hu0 : ∀ j, j < 32 → un 0 j = false) (hu1 : ∀ j, j < 32 → un 1 j = false) (q0 : q 0 = []) (q1 : q 1 = []) (w0 : wt 0 = []) (w1 : wt 1 = []) (hx : ∀ w, 1 ≤ w → w ≤ 300 → wx w = false) (s0 : sc 12 0 = 0) (s1 : sc 12 1 = 0) (iC : IC (sc 6 0) (sc 6 1) (sc 8 0) (sc 8 1) (sc 9 0) (sc 9 1) 0 0) (iE : IE n own ep pv) : Inv t n own blk ep ft sc lk gr mp un q wt wx pv := by
  have e0 : PL (q 1) (wt 1) (q 0) = [] := by rw [q0, q1, w1]; rfl
  have e1 : PL (q 0) (wt 0) (q 1) = [] := by rw [q0, q1, w0]; rfl
  refine ⟨iT, iG, ?_, ?_, ?_, ?_, ?_, ?_, ?_, ?_, ?_, iE⟩
  · rw [e0]
    exact IN.nil (fun w g1 g2 _ => hf w g1 g2) hu0
  · rw [e1]
    exact IN.nil (fun w g1 g2 _ => hf w g1 g2) hu1
  · rw [q0]
    exact ⟨fun a ha => (by cases ha), fun a ha => (by cases ha), by decide⟩
  · rw [q1]
    exact ⟨fun a ha => (by cases ha), fun a ha => (by cases ha), by decide⟩
  · rw [w1, q0]
    exact List.Pairwise.nil
  · rw [w0, q1]
    exact List.Pairwise.nil
  · intro w g1 g2
    rw [hx w g1 g2, w0, w1]
    exact ⟨fun r => (by cases r), fun r => r.2.elim (fun r => by cases r.2) (fun r => by cases r.2)⟩
  · rw [s0, s1]
    exact iC
  · intro _
    exact ⟨q0, q1, w0, w1, s0, s1⟩
theorem Inv_un {t : Nat} {n : Nat} {own blk ep ft : Nat → Nat} {sc : HH} {lk gr : Int32} {mp un : Nat → Nat → Bool} {q : Nat → List MSG} {wt : Nat → List Nat} {wx : Nat → Bool} {pv : Nat → Nat} (h : Inv t n own blk ep ft sc lk gr mp un q wt wx pv) (hl : lk = 0) : (∀ w, 1 ≤ w → w ≤ n → ft w ≠ 1) ∧ (∀ j, j < 32 → un 0 j = false) ∧ (∀ j, j < 32 → un 1 j = false) ∧ (q 0 = [] ∧ q 1 = [] ∧ wt 0 = [] ∧ wt 1 = [] ∧ sc 12 0 = 0 ∧ sc 12 1 = 0) ∧ ∀ w, 1 ≤ w → w ≤ 300 → wx w = false := by
  obtain ⟨iT, iG, iN0, iN1, iQ0, iQ1, iR0, iR1, iW, iC, iK, iE⟩ := h
  obtain ⟨q0, q1, w0, w1, s0, s1⟩ := iK hl
  have e0 : PL (q 1) (wt 1) (q 0) = [] := by rw [q0, q1, w1]; rfl
  have e1 : PL (q 0) (wt 0) (q 1) = [] := by rw [q0, q1, w0]; rfl
  rw [e0] at iN0
  rw [e1] at iN1
  obtain ⟨-, -, a3, -, -, -, a7, -⟩ := iN0
  obtain ⟨-, -, b3, -, -, -, b7, -⟩ := iN1
  refine ⟨fun w g1 g2 hf => ?_, fun j hj => ?_, fun j hj => ?_, ⟨q0, q1, w0, w1, s0, s1⟩, fun w g1 g2 => ?_⟩
  · have := (iT.2 w g1 g2).1
    rcases (show own w = 0 ∨ own w = 1 by omega) with ho | ho
    · cases (a3 w).mpr ⟨⟨g1, g2⟩, ho, hf⟩
    · cases (b3 w).mpr ⟨⟨g1, g2⟩, ho, hf⟩
  · cases hu : un 0 j with
    | false => rfl
    | true => cases (a7 j hj).mp hu
  · cases hu : un 1 j with
    | false => rfl
    | true => cases (b7 j hj).mp hu
  · cases hu : wx w with
    | false => rfl
    | true =>
      have := (iW w g1 g2).mp hu
      rw [w0, w1] at this
      exact this.2.elim (fun r => by cases r.2) (fun r => by cases r.2)
theorem S_brk (fz : Nat) (hz : 400 ≤ fz) {t : Nat} (ht : t ≤ 600) {n : Nat} {own blk ep ft : Nat → Nat} {sc : HH} {lk gr : Int32} {mp un : Nat → Nat → Bool} {q : Nat → List MSG} {wt : Nat → List Nat} {wx : Nat → Bool} {lg : Nat → List Nat} {us : Nat → Nat → Nat} {pv : Nat → Nat} {v m : HH} (hR : Rel n own blk ep ft sc lk gr mp un q wt wx lg us pv (v) (m)) (iT : IT n own blk ep ft) (iG : ∃ g, gr = nI g ∧ 1 ≤ g ∧ g ≤ 1 + 301 * t) (iC : IC (sc 6 0) (sc 6 1) (sc 8 0) (sc 8 1) (sc 9 0) (sc 9 1) 0 0) (hx : ∀ w, n < w → w ≤ 300 → wx w = false) (iE : IE n own ep pv) : P_V_breakLink fz v ∧ P_M_breakLink fz m ∧ J2 (t + 1) (B_V_breakLink fz v) (B_M_breakLink fz m) := by
  obtain ⟨p1, p2, ft', sc', gr', mp', wx', r, b1, b2, b3, b4, b5⟩ := r_break fz hz iT.1 (fun w g1 g2 => ⟨(iT.2 w g1 g2).1, (iT.2 w g1 g2).2.1⟩) (fun w g1 g2 => (iT.2 w g1 g2).2.2.2) hR
  obtain ⟨g, g1, g2, g3⟩ := iG
  have hn := iT.1
  obtain ⟨⟨g', k1, k2, k3⟩, k4⟩ := b5 g g1 g2 (by omega)
  obtain ⟨c1, c2, c3, c4, c5, c6, c7, c8⟩ := iC
  refine ⟨p1, p2, _, _, _, _, _, _, _, _, _, _, _, _, _, _, _, _, r, Inv_down ⟨iT.1, fun w h1 h2 => ?_⟩ ⟨g', k1, k2, by omega⟩ (fun w h1 h2 => ?_) (fun j hj => rfl) (fun j hj => rfl) rfl rfl rfl rfl (fun w h1 h2 => ?_) ?_ ?_ ?_ iE⟩
  · obtain ⟨o1, o2, o3, o4⟩ := iT.2 w h1 h2
    refine ⟨o1, o2, o3, ?_⟩
    rw [b1 w]
    split
    · decide
    · exact o4
  · rw [b1 w]
    split
    · decide
    · rename_i hh
      exact fun r => hh ⟨h1, h2, r⟩
  · rw [b2 w]
    split
    · rfl
    · exact hx w (by omega) h2
  · exact b3 12 0 (by decide) (by decide)
  · exact b3 12 1 (by decide) (by decide)
  · have e8 : ∀ b, sc' 8 b = sc 8 b := fun b => b3 8 b (by decide) (by decide)
    have e9 : ∀ b, sc' 9 b = sc 9 b := fun b => b3 9 b (by decide) (by decide)
    rw [e8, e8, e9, e9]
    exact ⟨fun r => c1 (k4 0 r), fun r => c2 (k4 1 r), c3, fun r => absurd rfl r, fun r => absurd rfl r, fun r => absurd rfl r.1, c7, c8⟩
theorem wx_hi {n : Nat} {own : Nat → Nat} {w0 w1 : List Nat} {wx : Nat → Bool} (iW : IW n own w0 w1 wx) : ∀ w, n < w → w ≤ 300 → wx w = false := by
  intro w h1 h2
  cases hu : wx w with
  | false => rfl
  | true =>
    have := (iW w (by omega) h2).mp hu
    omega
theorem IC.off {a60 a61 a80 a81 a90 a91 s0 s1 : Int32} (h : IC a60 a61 a80 a81 a90 a91 s0 s1) : IC a60 a61 a80 a81 a90 a91 0 0 := ⟨h.1, h.2.1, h.2.2.1, fun r => absurd rfl r, fun r => absurd rfl r, fun r => absurd rfl r.1, h.2.2.2.2.2.2⟩
theorem S_cut (fz : Nat) (hz : 400 ≤ fz) {t : Nat} (ht : t ≤ 600) {v m : HH} (hJ : J2 t v m) : P_V_cut fz v ∧ P_M_cut fz m ∧ RS t (B_V_cut fz v) (B_M_cut fz m) := by
  have hJ0 := hJ
  obtain ⟨n, own, blk, ep, ft, sc, lk, gr, mp, un, q, wt, wx, lg, us, pv, hR, hI⟩ := hJ
  have hR' := hR
  obtain ⟨hL, hT, hX, hS0, hM0, hD0, hR0, hA0, hW0, hG0, hU0, hE0, hS1, hM1, hD1, hR1, hA1, hW1, hG1, hU1, hE1⟩ := hR'
  have hI' := hI
  obtain ⟨iT, iG, iN0, iN1, iQ0, iQ1, iR0, iR1, iW, iC, iK, iE⟩ := hI'
  obtain ⟨s0a, s1a, s2a, s3a, s4a, s5a, s6a, s7a, s8a, s9a, s10a, s11a, s12a, s13a, s14a, s15a, s16a⟩ := hS0
  obtain ⟨s0b, s1b, s2b, s3b, s4b, s5b, s6b, s7b, s8b, s9b, s10b, s11b, s12b, s13b, s14b, s15b, s16b⟩ := hS1
  obtain ⟨l1, l2, l3, l4⟩ := hL
  by_cases cl : lk = 0
  · have eV : B_V_cut fz v = (0, v) := by simp only [B_V_cut, l1, cl, eq_self, one0, if_true, if_false, not_true_eq_false, not_false_eq_true, true_implies, false_implies, implies_true, and_true, true_and]
    have eM : B_M_cut fz m = (0, m) := by simp only [B_M_cut, l3, cl, eq_self, one0, if_true, if_false, not_true_eq_false, not_false_eq_true, true_implies, false_implies, implies_true, and_true, true_and]
    refine ⟨by simp only [P_V_cut, l1, cl, eq_self, one0, if_true, if_false, not_true_eq_false, not_false_eq_true, true_implies, false_implies, implies_true, and_true, true_and], by simp only [P_M_cut, l3, cl, eq_self, one0, if_true, if_false, not_true_eq_false, not_false_eq_true, true_implies, false_implies, implies_true, and_true, true_and], ?_⟩
    rw [eV, eM]
    exact RS.same hJ0 _
  · obtain ⟨p1, p2, hJ'⟩ := S_brk fz hz ht hR iT iG iC.off (wx_hi iW) iE
    have eV : B_V_cut fz v = (1, B_V_breakLink fz v) := by simp only [B_V_cut, l1, cl, eq_self, one0, if_true, if_false, not_true_eq_false, not_false_eq_true, true_implies, false_implies, implies_true, and_true, true_and]
    have eM : B_M_cut fz m = (1, B_M_breakLink fz m) := by simp only [B_M_cut, l3, cl, eq_self, one0, if_true, if_false, not_true_eq_false, not_false_eq_true, true_implies, false_implies, implies_true, and_true, true_and]
    refine ⟨by simp only [P_V_cut, l1, cl, p1, eq_self, one0, if_true, if_false, not_true_eq_false, not_false_eq_true, true_implies, false_implies, implies_true, and_true, true_and], by simp only [P_M_cut, l3, cl, p2, eq_self, one0, if_true, if_false, not_true_eq_false, not_false_eq_true, true_implies, false_implies, implies_true, and_true, true_and], ?_⟩
    rw [eV, eM]
    exact ⟨rfl, hJ'⟩
end
section
theorem crash_fin (fz : Nat) (hz : 400 ≤ fz) {t : Nat} (ht : t ≤ 600) {n : Nat} {own blk ep ft : Nat → Nat} {sc : HH} {lk gr : Int32} {mp un : Nat → Nat → Bool} {q : Nat → List MSG} {wt : Nat → List Nat} {wx : Nat → Bool} {lg : Nat → List Nat} {us : Nat → Nat → Nat} {pv : Nat → Nat} {v m : HH} (hR : Rel n own blk ep ft sc lk gr mp un q wt wx lg us pv (v) (m)) (iT : IT n own blk ep ft) (iG : ∃ g, gr = nI g ∧ 1 ≤ g ∧ g ≤ 1 + 301 * t) (iC : IC (sc 6 0) (sc 6 1) (sc 8 0) (sc 8 1) (sc 9 0) (sc 9 1) 0 0) (hx : ∀ w, n < w → w ≤ 300 → wx w = false) (iE : IE n own ep pv) (hun : lk = 0 → (∀ w, 1 ≤ w → w ≤ n → ft w ≠ 1) ∧ (∀ j, j < 32 → un 0 j = false) ∧ (∀ j, j < 32 → un 1 j = false) ∧ (q 0 = [] ∧ q 1 = [] ∧ wt 0 = [] ∧ wt 1 = [] ∧ sc 12 0 = 0 ∧ sc 12 1 = 0) ∧ ∀ w, 1 ≤ w → w ≤ 300 → wx w = false) : P_V_crash_68 fz v ∧ P_M_crash_75 fz m ∧ RS t (B_V_crash_68 fz v) (B_M_crash_75 fz m) := by
  have hR' := hR
  obtain ⟨hL, hT, hX, hS0, hM0, hD0, hR0, hA0, hW0, hG0, hU0, hE0, hS1, hM1, hD1, hR1, hA1, hW1, hG1, hU1, hE1⟩ := hR'
  obtain ⟨l1, l2, l3, l4⟩ := hL
  by_cases cl : lk = 0
  · obtain ⟨u1, u2', u3, ⟨u4, u5, u6, u7, u8, u9⟩, u10⟩ := hun cl
    have eV : B_V_crash_68 fz v = (1, v) := by simp only [B_V_crash_68, l1, cl, eq_self, one0, if_true, if_false, not_true_eq_false, not_false_eq_true, true_implies, false_implies, implies_true, and_true, true_and]
    have eM : B_M_crash_75 fz m = (1, m) := by simp only [B_M_crash_75, l3, cl, eq_self, one0, if_true, if_false, not_true_eq_false, not_false_eq_true, true_implies, false_implies, implies_true, and_true, true_and]
    refine ⟨by simp only [P_V_crash_68, l1, cl, eq_self, one0, if_true, if_false, not_true_eq_false, not_false_eq_true, true_implies, false_implies, implies_true, and_true, true_and], by simp only [P_M_crash_75, l3, cl, eq_self, one0, if_true, if_false, not_true_eq_false, not_false_eq_true, true_implies, false_implies, implies_true, and_true, true_and], ?_⟩
    rw [eV, eM]
    obtain ⟨g, g1, g2, g3⟩ := iG
    exact ⟨rfl, n, own, blk, ep, ft, sc, lk, gr, mp, un, q, wt, wx, lg, us, pv, hR, Inv_down iT ⟨g, g1, g2, by omega⟩ u1 u2' u3 u4 u5 u6 u7 u10 u8 u9 iC iE⟩
  · obtain ⟨p1, p2, hJ'⟩ := S_brk fz hz ht hR iT iG iC hx iE
    have eV : B_V_crash_68 fz v = (1, B_V_breakLink fz v) := by simp only [B_V_crash_68, l1, cl, eq_self, one0, if_true, if_false, not_true_eq_false, not_false_eq_true, true_implies, false_implies, implies_true, and_true, true_and]
    have eM : B_M_crash_75 fz m = (1, B_M_breakLink fz m) := by simp only [B_M_crash_75, l3, cl, eq_self, one0, if_true, if_false, not_true_eq_false, not_false_eq_true, true_implies, false_implies, implies_true, and_true, true_and]
    refine ⟨by simp only [P_V_crash_68, l1, cl, p1, eq_self, one0, if_true, if_false, not_true_eq_false, not_false_eq_true, true_implies, false_implies, implies_true, and_true, true_and], by simp only [P_M_crash_75, l3, cl, p2, eq_self, one0, if_true, if_false, not_true_eq_false, not_false_eq_true, true_implies, false_implies, implies_true, and_true, true_and], ?_⟩
    rw [eV, eM]
    exact ⟨rfl, hJ'⟩
theorem cft_lt {own ft : Nat → Nat} {b a y n w : Nat} (h : ft w < 5) (hy : y < 5) : cft own ft b a y n w < 5 := by
  unfold cft
  split
  · exact hy
  · exact h
theorem cft_1 {own ft : Nat → Nat} {b a y n w : Nat} (ha : a ≠ 1) (hy : y ≠ 1) : cft own ft b a y n w = 1 ↔ ft w = 1 := by
  unfold cft
  split
  · rename_i h
    constructor
    · intro r
      exact absurd r hy
    · intro r
      rw [r] at h
      exact absurd h.2.2.symm ha
  · exact Iff.rfl
theorem cft_n1 {own ft : Nat → Nat} {b a y n w : Nat} (hy : y ≠ 1) (h : ft w ≠ 1) : cft own ft b a y n w ≠ 1 := by
  unfold cft
  split
  · exact hy
  · exact h
theorem S_crash (fz : Nat) (hz : 400 ≤ fz) {t : Nat} (ht : t ≤ 600) {v m : HH} (hJ : J2 t v m) (x : Int32) : P_V_crash fz x v ∧ P_M_crash fz x m ∧ RS t (B_V_crash fz x v) (B_M_crash fz x m) := by
  rcases ndc x with ⟨h0, h1⟩ | rfl | rfl
  · have eV : B_V_crash fz x v = (0, v) := by simp only [B_V_crash, vN_n fz v h0 h1, eq_self, one0, if_true, if_false, not_true_eq_false, not_false_eq_true, true_implies, false_implies, implies_true, and_true, true_and]
    have eM : B_M_crash fz x m = (0, m) := by simp only [B_M_crash, mN_n fz m h0 h1, eq_self, one0, if_true, if_false, not_true_eq_false, not_false_eq_true, true_implies, false_implies, implies_true, and_true, true_and]
    refine ⟨by simp only [P_V_crash, pT_isNode, vN_n fz v h0 h1, eq_self, one0, if_true, if_false, not_true_eq_false, not_false_eq_true, true_implies, false_implies, implies_true, and_true, true_and], by simp only [P_M_crash, pT_isNodeM, mN_n fz m h0 h1, eq_self, one0, if_true, if_false, not_true_eq_false, not_false_eq_true, true_implies, false_implies, implies_true, and_true, true_and], ?_⟩
    rw [eV, eM]
    exact RS.same hJ _
  · have hJ0 := hJ
    obtain ⟨n, own, blk, ep, ft, sc, lk, gr, mp, un, q, wt, wx, lg, us, pv, hR, hI⟩ := hJ
    have hR' := hR
    obtain ⟨hL, hT, hX, hS0, hM0, hD0, hR0, hA0, hW0, hG0, hU0, hE0, hS1, hM1, hD1, hR1, hA1, hW1, hG1, hU1, hE1⟩ := hR'
    have hI' := hI
    obtain ⟨iT, iG, iN0, iN1, iQ0, iQ1, iR0, iR1, iW, iC, iK, iE⟩ := hI'
    obtain ⟨s0a, s1a, s2a, s3a, s4a, s5a, s6a, s7a, s8a, s9a, s10a, s11a, s12a, s13a, s14a, s15a, s16a⟩ := hS0
    obtain ⟨s0b, s1b, s2b, s3b, s4b, s5b, s6b, s7b, s8b, s9b, s10b, s11b, s12b, s13b, s14b, s15b, s16b⟩ := hS1
    obtain ⟨l1, l2, l3, l4⟩ := hL
    by_cases c10 : sc 10 0 = 0
    · have eV : B_V_crash fz (nI 0) v = (0, v) := by simp only [B_V_crash, vN_0, mN_0, nO_0, pO_0, ixb_0, vpb_0, om_0, ixb_1, vpb_1, s5a, s13a, c10, eq_self, one0, if_true, if_false, not_true_eq_false, not_false_eq_true, true_implies, false_implies, implies_true, and_true, true_and]
      have eM : B_M_crash fz (nI 0) m = (0, m) := by simp only [B_M_crash, vN_0, mN_0, nO_0, pO_0, ixb_0, vpb_0, om_0, ixb_1, vpb_1, s5a, s13a, c10, eq_self, one0, if_true, if_false, not_true_eq_false, not_false_eq_true, true_implies, false_implies, implies_true, and_true, true_and]
      refine ⟨by simp only [P_V_crash, pT_isNode, pT_nodeOf, pT_peerOf, vN_0, mN_0, nO_0, pO_0, ixb_0, vpb_0, om_0, ixb_1, vpb_1, s5a, s13a, c10, eq_self, one0, if_true, if_false, not_true_eq_false, not_false_eq_true, true_implies, false_implies, implies_true, and_true, true_and], by simp only [P_M_crash, pT_isNodeM, vN_0, mN_0, nO_0, pO_0, ixb_0, vpb_0, om_0, ixb_1, vpb_1, s5a, s13a, c10, eq_self, one0, if_true, if_false, not_true_eq_false, not_false_eq_true, true_implies, false_implies, implies_true, and_true, true_and], ?_⟩
      rw [eV, eM]
      exact RS.same hJ0 _
    · have r1 := r_set_10_0 hR 0
      obtain ⟨p1, p2, r2⟩ := r_chft fz hz iT.1 (fun w g1 g2 => ⟨(iT.2 w g1 g2).1, (iT.2 w g1 g2).2.2.2⟩) r1 (b := 0) (a := 1) (y := 4) (by decide) (by decide) (xb := nI 0) rfl (xb2 := nI 0) rfl li1 li4
      obtain ⟨p3, p4, r3⟩ := r_chft fz hz iT.1 (fun w g1 g2 => ⟨(iT.2 w g1 g2).1, cft_lt (iT.2 w g1 g2).2.2.2 (by decide)⟩) r2 (b := 0) (a := 3) (y := 4) (by decide) (by decide) (xb := nI 0) rfl (xb2 := nI 0) rfl li3 li4
      have iT' : IT n own blk ep (cft own (cft own ft 0 1 4 n) 0 3 4 n) := ⟨iT.1, fun w g1 g2 => ⟨(iT.2 w g1 g2).1, (iT.2 w g1 g2).2.1, (iT.2 w g1 g2).2.2.1, cft_lt (cft_lt (iT.2 w g1 g2).2.2.2 (by decide)) (by decide)⟩⟩
      have iC0 := iC.off
      obtain ⟨c1, c2, c3, c4, c5, c6, c7, c8⟩ := iC0
      have q11 : (B_T_changeFates fz (nI 0) 3 4 (B_T_changeFates fz (nI 0) 1 4 (u2 v 1 10 0))) 1 11 = sc 11 0 ∧ (B_M_turnInto fz (nI 0) 3 4 (B_M_turnInto fz (nI 0) 1 4 (u2 m 42 0 0))) 41 0 = sc 9 0 ∧ (B_M_turnInto fz (nI 0) 3 4 (B_M_turnInto fz (nI 0) 1 4 (u2 m 42 0 0))) 43 0 = sc 11 0 := by
        obtain ⟨kL, kT, kX, kS0, kM0, kD0, kR0, kA0, kW0, kG0, kU0, kE0, kS1, kM1, kD1, kR1, kA1, kW1, kG1, kU1, kE1⟩ := r3
        obtain ⟨z0, z1, z2, z3, z4, z5, z6, z7, z8, z9, z10, z11, z12, z13, z14, z15, z16⟩ := kS0
        exact ⟨z6, z12, z14⟩
      obtain ⟨q1, q2, q3⟩ := q11
      by_cases c11 : sc 11 0 = 0
      · obtain ⟨w1, w2, w3⟩ := crash_fin fz hz ht r3 iT' iG ⟨c1, c2, c3, c4, c5, c6, c7, c8⟩ (wx_hi iW) iE (fun cl => ⟨fun w g1 g2 => cft_n1 (by decide) (cft_n1 (by decide) ((Inv_un hI cl).1 w g1 g2)), (Inv_un hI cl).2.1, (Inv_un hI cl).2.2.1, (Inv_un hI cl).2.2.2.1, (Inv_un hI cl).2.2.2.2⟩)
        have em : B_M_crash_39 fz (nI 0) (B_M_turnInto fz (nI 0) 3 4 (B_M_turnInto fz (nI 0) 1 4 (u2 m 42 0 0))) = B_M_crash_75 fz (B_M_turnInto fz (nI 0) 3 4 (B_M_turnInto fz (nI 0) 1 4 (u2 m 42 0 0))) := by
          by_cases c9 : sc 9 0 = 0
          · have e1 : u2 (B_M_turnInto fz (nI 0) 3 4 (B_M_turnInto fz (nI 0) 1 4 (u2 m 42 0 0))) 41 0 0 = B_M_turnInto fz (nI 0) 3 4 (B_M_turnInto fz (nI 0) 1 4 (u2 m 42 0 0)) := u2_id (q2.trans c9).symm
            have e2 : u2 (B_M_turnInto fz (nI 0) 3 4 (B_M_turnInto fz (nI 0) 1 4 (u2 m 42 0 0))) 43 0 0 = B_M_turnInto fz (nI 0) 3 4 (B_M_turnInto fz (nI 0) 1 4 (u2 m 42 0 0)) := u2_id (q3.trans c11).symm
            simp only [B_M_crash_39, ixb_0, q2, q3, c9, c11, e1, e2, eq_self, one0, if_true, if_false, not_true_eq_false, not_false_eq_true, true_implies, false_implies, implies_true, and_true, true_and]
          · have h9 : sc 9 0 = 1 := (c7).resolve_left c9
            have e1 : u2 (B_M_turnInto fz (nI 0) 3 4 (B_M_turnInto fz (nI 0) 1 4 (u2 m 42 0 0))) 41 0 1 = B_M_turnInto fz (nI 0) 3 4 (B_M_turnInto fz (nI 0) 1 4 (u2 m 42 0 0)) := u2_id (q2.trans h9).symm
            have e2 : u2 (B_M_turnInto fz (nI 0) 3 4 (B_M_turnInto fz (nI 0) 1 4 (u2 m 42 0 0))) 43 0 0 = B_M_turnInto fz (nI 0) 3 4 (B_M_turnInto fz (nI 0) 1 4 (u2 m 42 0 0)) := u2_id (q3.trans c11).symm
            simp only [B_M_crash_39, B_M_crash_62, ixb_0, q2, h9, e1, e2, eq_self, one0, if_true, if_false, not_true_eq_false, not_false_eq_true, true_implies, false_implies, implies_true, and_true, true_and]
        have pm : P_M_crash_39 fz (nI 0) (B_M_turnInto fz (nI 0) 3 4 (B_M_turnInto fz (nI 0) 1 4 (u2 m 42 0 0))) := by
          by_cases c9 : sc 9 0 = 0
          · have e1 : u2 (B_M_turnInto fz (nI 0) 3 4 (B_M_turnInto fz (nI 0) 1 4 (u2 m 42 0 0))) 41 0 0 = B_M_turnInto fz (nI 0) 3 4 (B_M_turnInto fz (nI 0) 1 4 (u2 m 42 0 0)) := u2_id (q2.trans c9).symm
            have e2 : u2 (B_M_turnInto fz (nI 0) 3 4 (B_M_turnInto fz (nI 0) 1 4 (u2 m 42 0 0))) 43 0 0 = B_M_turnInto fz (nI 0) 3 4 (B_M_turnInto fz (nI 0) 1 4 (u2 m 42 0 0)) := u2_id (q3.trans c11).symm
            simp only [P_M_crash_39, ixb_0, vpb_0, q2, q3, c9, c11, e1, e2, w2, eq_self, one0, if_true, if_false, not_true_eq_false, not_false_eq_true, true_implies, false_implies, implies_true, and_true, true_and]
          · have h9 : sc 9 0 = 1 := (c7).resolve_left c9
            have e1 : u2 (B_M_turnInto fz (nI 0) 3 4 (B_M_turnInto fz (nI 0) 1 4 (u2 m 42 0 0))) 41 0 1 = B_M_turnInto fz (nI 0) 3 4 (B_M_turnInto fz (nI 0) 1 4 (u2 m 42 0 0)) := u2_id (q2.trans h9).symm
            have e2 : u2 (B_M_turnInto fz (nI 0) 3 4 (B_M_turnInto fz (nI 0) 1 4 (u2 m 42 0 0))) 43 0 0 = B_M_turnInto fz (nI 0) 3 4 (B_M_turnInto fz (nI 0) 1 4 (u2 m 42 0 0)) := u2_id (q3.trans c11).symm
            simp only [P_M_crash_39, P_M_crash_62, ixb_0, vpb_0, q2, h9, e1, e2, w2, eq_self, one0, if_true, if_false, not_true_eq_false, not_false_eq_true, true_implies, false_implies, implies_true, and_true, true_and]
        have eV : B_V_crash fz (nI 0) v = B_V_crash_68 fz (B_T_changeFates fz (nI 0) 3 4 (B_T_changeFates fz (nI 0) 1 4 (u2 v 1 10 0))) := by simp only [B_V_crash, B_V_crash_31, B_V_crash_41, B_V_crash_51, vN_0, mN_0, nO_0, pO_0, ixb_0, vpb_0, om_0, ixb_1, vpb_1, s5a, s13a, c10, q1, c11, eq_self, one0, if_true, if_false, not_true_eq_false, not_false_eq_true, true_implies, false_implies, implies_true, and_true, true_and]
        have eM : B_M_crash fz (nI 0) m = B_M_crash_75 fz (B_M_turnInto fz (nI 0) 3 4 (B_M_turnInto fz (nI 0) 1 4 (u2 m 42 0 0))) := by simp only [B_M_crash, B_M_crash_25, B_M_crash_32, vN_0, mN_0, nO_0, pO_0, ixb_0, vpb_0, om_0, ixb_1, vpb_1, s5a, s13a, c10, em, eq_self, one0, if_true, if_false, not_true_eq_false, not_false_eq_true, true_implies, false_implies, implies_true, and_true, true_and]
        refine ⟨by simp only [P_V_crash, P_V_crash_31, P_V_crash_41, P_V_crash_51, pT_isNode, pT_nodeOf, vN_0, mN_0, nO_0, pO_0, ixb_0, vpb_0, om_0, ixb_1, vpb_1, s5a, s13a, c10, q1, c11, p1, p3, w1, eq_self, one0, if_true, if_false, not_true_eq_false, not_false_eq_true, true_implies, false_implies, implies_true, and_true, true_and], by simp only [P_M_crash, P_M_crash_25, P_M_crash_32, pT_isNodeM, vN_0, mN_0, nO_0, pO_0, ixb_0, vpb_0, om_0, ixb_1, vpb_1, s5a, s13a, c10, p2, p4, pm, eq_self, one0, if_true, if_false, not_true_eq_false, not_false_eq_true, true_implies, false_implies, implies_true, and_true, true_and], ?_⟩
        rw [eV, eM]
        exact w3
      · obtain ⟨w1, w2, w3⟩ := crash_fin fz hz ht (r_set_11_0 (r_set_9_0 r3 1) 0) iT' iG ⟨c1, c2, c3, c4, c5, c6, Or.inr rfl, c8⟩ (wx_hi iW) iE (fun cl => ⟨fun w g1 g2 => cft_n1 (by decide) (cft_n1 (by decide) ((Inv_un hI cl).1 w g1 g2)), (Inv_un hI cl).2.1, (Inv_un hI cl).2.2.1, (Inv_un hI cl).2.2.2.1, (Inv_un hI cl).2.2.2.2⟩)
        have eV : B_V_crash fz (nI 0) v = B_V_crash_68 fz (u2 (u2 (B_T_changeFates fz (nI 0) 3 4 (B_T_changeFates fz (nI 0) 1 4 (u2 v 1 10 0))) 1 9 1) 1 11 0) := by simp only [B_V_crash, B_V_crash_31, B_V_crash_41, B_V_crash_51, vN_0, mN_0, nO_0, pO_0, ixb_0, vpb_0, om_0, ixb_1, vpb_1, s5a, s13a, c10, q1, c11, eq_self, one0, if_true, if_false, not_true_eq_false, not_false_eq_true, true_implies, false_implies, implies_true, and_true, true_and]
        have em : B_M_crash_39 fz (nI 0) (B_M_turnInto fz (nI 0) 3 4 (B_M_turnInto fz (nI 0) 1 4 (u2 m 42 0 0))) = B_M_crash_75 fz (u2 (u2 (B_M_turnInto fz (nI 0) 3 4 (B_M_turnInto fz (nI 0) 1 4 (u2 m 42 0 0))) 41 0 1) 43 0 0) := by
          by_cases c9 : sc 9 0 = 0
          · simp only [B_M_crash_39, B_M_crash_62, ixb_0, q2, q3, c9, c11, eq_self, one0, if_true, if_false, not_true_eq_false, not_false_eq_true, true_implies, false_implies, implies_true, and_true, true_and]
          · simp only [B_M_crash_39, B_M_crash_62, ixb_0, q2, c9, eq_self, one0, if_true, if_false, not_true_eq_false, not_false_eq_true, true_implies, false_implies, implies_true, and_true, true_and]
        have pm : P_M_crash_39 fz (nI 0) (B_M_turnInto fz (nI 0) 3 4 (B_M_turnInto fz (nI 0) 1 4 (u2 m 42 0 0))) := by
          by_cases c9 : sc 9 0 = 0
          · simp only [P_M_crash_39, P_M_crash_62, ixb_0, vpb_0, q2, q3, c9, c11, w2, eq_self, one0, if_true, if_false, not_true_eq_false, not_false_eq_true, true_implies, false_implies, implies_true, and_true, true_and]
          · simp only [P_M_crash_39, P_M_crash_62, ixb_0, vpb_0, q2, c9, w2, eq_self, one0, if_true, if_false, not_true_eq_false, not_false_eq_true, true_implies, false_implies, implies_true, and_true, true_and]
        have eM : B_M_crash fz (nI 0) m = B_M_crash_75 fz (u2 (u2 (B_M_turnInto fz (nI 0) 3 4 (B_M_turnInto fz (nI 0) 1 4 (u2 m 42 0 0))) 41 0 1) 43 0 0) := by simp only [B_M_crash, B_M_crash_25, B_M_crash_32, vN_0, mN_0, nO_0, pO_0, ixb_0, vpb_0, om_0, ixb_1, vpb_1, s5a, s13a, c10, em, eq_self, one0, if_true, if_false, not_true_eq_false, not_false_eq_true, true_implies, false_implies, implies_true, and_true, true_and]
        refine ⟨by simp only [P_V_crash, P_V_crash_31, P_V_crash_41, P_V_crash_51, pT_isNode, pT_nodeOf, vN_0, mN_0, nO_0, pO_0, ixb_0, vpb_0, om_0, ixb_1, vpb_1, s5a, s13a, c10, q1, c11, p1, p3, w1, eq_self, one0, if_true, if_false, not_true_eq_false, not_false_eq_true, true_implies, false_implies, implies_true, and_true, true_and], by simp only [P_M_crash, P_M_crash_25, P_M_crash_32, pT_isNodeM, vN_0, mN_0, nO_0, pO_0, ixb_0, vpb_0, om_0, ixb_1, vpb_1, s5a, s13a, c10, p2, p4, pm, eq_self, one0, if_true, if_false, not_true_eq_false, not_false_eq_true, true_implies, false_implies, implies_true, and_true, true_and], ?_⟩
        rw [eV, eM]
        exact w3
  · have hJ0 := hJ
    obtain ⟨n, own, blk, ep, ft, sc, lk, gr, mp, un, q, wt, wx, lg, us, pv, hR, hI⟩ := hJ
    have hR' := hR
    obtain ⟨hL, hT, hX, hS0, hM0, hD0, hR0, hA0, hW0, hG0, hU0, hE0, hS1, hM1, hD1, hR1, hA1, hW1, hG1, hU1, hE1⟩ := hR'
    have hI' := hI
    obtain ⟨iT, iG, iN0, iN1, iQ0, iQ1, iR0, iR1, iW, iC, iK, iE⟩ := hI'
    obtain ⟨s0a, s1a, s2a, s3a, s4a, s5a, s6a, s7a, s8a, s9a, s10a, s11a, s12a, s13a, s14a, s15a, s16a⟩ := hS0
    obtain ⟨s0b, s1b, s2b, s3b, s4b, s5b, s6b, s7b, s8b, s9b, s10b, s11b, s12b, s13b, s14b, s15b, s16b⟩ := hS1
    obtain ⟨l1, l2, l3, l4⟩ := hL
    by_cases c10 : sc 10 1 = 0
    · have eV : B_V_crash fz (nI 1) v = (0, v) := by simp only [B_V_crash, vN_1, mN_1, nO_1, pO_1, ixb_1, vpb_1, om_1, ixb_0, vpb_0, s5b, s13b, c10, eq_self, one0, if_true, if_false, not_true_eq_false, not_false_eq_true, true_implies, false_implies, implies_true, and_true, true_and]
      have eM : B_M_crash fz (nI 1) m = (0, m) := by simp only [B_M_crash, vN_1, mN_1, nO_1, pO_1, ixb_1, vpb_1, om_1, ixb_0, vpb_0, s5b, s13b, c10, eq_self, one0, if_true, if_false, not_true_eq_false, not_false_eq_true, true_implies, false_implies, implies_true, and_true, true_and]
      refine ⟨by simp only [P_V_crash, pT_isNode, pT_nodeOf, pT_peerOf, vN_1, mN_1, nO_1, pO_1, ixb_1, vpb_1, om_1, ixb_0, vpb_0, s5b, s13b, c10, eq_self, one0, if_true, if_false, not_true_eq_false, not_false_eq_true, true_implies, false_implies, implies_true, and_true, true_and], by simp only [P_M_crash, pT_isNodeM, vN_1, mN_1, nO_1, pO_1, ixb_1, vpb_1, om_1, ixb_0, vpb_0, s5b, s13b, c10, eq_self, one0, if_true, if_false, not_true_eq_false, not_false_eq_true, true_implies, false_implies, implies_true, and_true, true_and], ?_⟩
      rw [eV, eM]
      exact RS.same hJ0 _
    · have r1 := r_set_10_1 hR 0
      obtain ⟨p1, p2, r2⟩ := r_chft fz hz iT.1 (fun w g1 g2 => ⟨(iT.2 w g1 g2).1, (iT.2 w g1 g2).2.2.2⟩) r1 (b := 1) (a := 1) (y := 4) (by decide) (by decide) (xb := nI 1) rfl (xb2 := nI 1) rfl li1 li4
      obtain ⟨p3, p4, r3⟩ := r_chft fz hz iT.1 (fun w g1 g2 => ⟨(iT.2 w g1 g2).1, cft_lt (iT.2 w g1 g2).2.2.2 (by decide)⟩) r2 (b := 1) (a := 3) (y := 4) (by decide) (by decide) (xb := nI 1) rfl (xb2 := nI 1) rfl li3 li4
      have iT' : IT n own blk ep (cft own (cft own ft 1 1 4 n) 1 3 4 n) := ⟨iT.1, fun w g1 g2 => ⟨(iT.2 w g1 g2).1, (iT.2 w g1 g2).2.1, (iT.2 w g1 g2).2.2.1, cft_lt (cft_lt (iT.2 w g1 g2).2.2.2 (by decide)) (by decide)⟩⟩
      have iC0 := iC.off
      obtain ⟨c1, c2, c3, c4, c5, c6, c7, c8⟩ := iC0
      have q11 : (B_T_changeFates fz (nI 1) 3 4 (B_T_changeFates fz (nI 1) 1 4 (u2 v 11 10 0))) 11 11 = sc 11 1 ∧ (B_M_turnInto fz (nI 1) 3 4 (B_M_turnInto fz (nI 1) 1 4 (u2 m 42 1 0))) 41 1 = sc 9 1 ∧ (B_M_turnInto fz (nI 1) 3 4 (B_M_turnInto fz (nI 1) 1 4 (u2 m 42 1 0))) 43 1 = sc 11 1 := by
        obtain ⟨kL, kT, kX, kS0, kM0, kD0, kR0, kA0, kW0, kG0, kU0, kE0, kS1, kM1, kD1, kR1, kA1, kW1, kG1, kU1, kE1⟩ := r3
        obtain ⟨z0, z1, z2, z3, z4, z5, z6, z7, z8, z9, z10, z11, z12, z13, z14, z15, z16⟩ := kS1
        exact ⟨z6, z12, z14⟩
      obtain ⟨q1, q2, q3⟩ := q11
      by_cases c11 : sc 11 1 = 0
      · obtain ⟨w1, w2, w3⟩ := crash_fin fz hz ht r3 iT' iG ⟨c1, c2, c3, c4, c5, c6, c7, c8⟩ (wx_hi iW) iE (fun cl => ⟨fun w g1 g2 => cft_n1 (by decide) (cft_n1 (by decide) ((Inv_un hI cl).1 w g1 g2)), (Inv_un hI cl).2.1, (Inv_un hI cl).2.2.1, (Inv_un hI cl).2.2.2.1, (Inv_un hI cl).2.2.2.2⟩)
        have em : B_M_crash_39 fz (nI 1) (B_M_turnInto fz (nI 1) 3 4 (B_M_turnInto fz (nI 1) 1 4 (u2 m 42 1 0))) = B_M_crash_75 fz (B_M_turnInto fz (nI 1) 3 4 (B_M_turnInto fz (nI 1) 1 4 (u2 m 42 1 0))) := by
          by_cases c9 : sc 9 1 = 0
          · have e1 : u2 (B_M_turnInto fz (nI 1) 3 4 (B_M_turnInto fz (nI 1) 1 4 (u2 m 42 1 0))) 41 1 0 = B_M_turnInto fz (nI 1) 3 4 (B_M_turnInto fz (nI 1) 1 4 (u2 m 42 1 0)) := u2_id (q2.trans c9).symm
            have e2 : u2 (B_M_turnInto fz (nI 1) 3 4 (B_M_turnInto fz (nI 1) 1 4 (u2 m 42 1 0))) 43 1 0 = B_M_turnInto fz (nI 1) 3 4 (B_M_turnInto fz (nI 1) 1 4 (u2 m 42 1 0)) := u2_id (q3.trans c11).symm
            simp only [B_M_crash_39, ixb_1, q2, q3, c9, c11, e1, e2, eq_self, one0, if_true, if_false, not_true_eq_false, not_false_eq_true, true_implies, false_implies, implies_true, and_true, true_and]
          · have h9 : sc 9 1 = 1 := (c8).resolve_left c9
            have e1 : u2 (B_M_turnInto fz (nI 1) 3 4 (B_M_turnInto fz (nI 1) 1 4 (u2 m 42 1 0))) 41 1 1 = B_M_turnInto fz (nI 1) 3 4 (B_M_turnInto fz (nI 1) 1 4 (u2 m 42 1 0)) := u2_id (q2.trans h9).symm
            have e2 : u2 (B_M_turnInto fz (nI 1) 3 4 (B_M_turnInto fz (nI 1) 1 4 (u2 m 42 1 0))) 43 1 0 = B_M_turnInto fz (nI 1) 3 4 (B_M_turnInto fz (nI 1) 1 4 (u2 m 42 1 0)) := u2_id (q3.trans c11).symm
            simp only [B_M_crash_39, B_M_crash_62, ixb_1, q2, h9, e1, e2, eq_self, one0, if_true, if_false, not_true_eq_false, not_false_eq_true, true_implies, false_implies, implies_true, and_true, true_and]
        have pm : P_M_crash_39 fz (nI 1) (B_M_turnInto fz (nI 1) 3 4 (B_M_turnInto fz (nI 1) 1 4 (u2 m 42 1 0))) := by
          by_cases c9 : sc 9 1 = 0
          · have e1 : u2 (B_M_turnInto fz (nI 1) 3 4 (B_M_turnInto fz (nI 1) 1 4 (u2 m 42 1 0))) 41 1 0 = B_M_turnInto fz (nI 1) 3 4 (B_M_turnInto fz (nI 1) 1 4 (u2 m 42 1 0)) := u2_id (q2.trans c9).symm
            have e2 : u2 (B_M_turnInto fz (nI 1) 3 4 (B_M_turnInto fz (nI 1) 1 4 (u2 m 42 1 0))) 43 1 0 = B_M_turnInto fz (nI 1) 3 4 (B_M_turnInto fz (nI 1) 1 4 (u2 m 42 1 0)) := u2_id (q3.trans c11).symm
            simp only [P_M_crash_39, ixb_1, vpb_1, q2, q3, c9, c11, e1, e2, w2, eq_self, one0, if_true, if_false, not_true_eq_false, not_false_eq_true, true_implies, false_implies, implies_true, and_true, true_and]
          · have h9 : sc 9 1 = 1 := (c8).resolve_left c9
            have e1 : u2 (B_M_turnInto fz (nI 1) 3 4 (B_M_turnInto fz (nI 1) 1 4 (u2 m 42 1 0))) 41 1 1 = B_M_turnInto fz (nI 1) 3 4 (B_M_turnInto fz (nI 1) 1 4 (u2 m 42 1 0)) := u2_id (q2.trans h9).symm
            have e2 : u2 (B_M_turnInto fz (nI 1) 3 4 (B_M_turnInto fz (nI 1) 1 4 (u2 m 42 1 0))) 43 1 0 = B_M_turnInto fz (nI 1) 3 4 (B_M_turnInto fz (nI 1) 1 4 (u2 m 42 1 0)) := u2_id (q3.trans c11).symm
            simp only [P_M_crash_39, P_M_crash_62, ixb_1, vpb_1, q2, h9, e1, e2, w2, eq_self, one0, if_true, if_false, not_true_eq_false, not_false_eq_true, true_implies, false_implies, implies_true, and_true, true_and]
        have eV : B_V_crash fz (nI 1) v = B_V_crash_68 fz (B_T_changeFates fz (nI 1) 3 4 (B_T_changeFates fz (nI 1) 1 4 (u2 v 11 10 0))) := by simp only [B_V_crash, B_V_crash_31, B_V_crash_41, B_V_crash_51, vN_1, mN_1, nO_1, pO_1, ixb_1, vpb_1, om_1, ixb_0, vpb_0, s5b, s13b, c10, q1, c11, eq_self, one0, if_true, if_false, not_true_eq_false, not_false_eq_true, true_implies, false_implies, implies_true, and_true, true_and]
        have eM : B_M_crash fz (nI 1) m = B_M_crash_75 fz (B_M_turnInto fz (nI 1) 3 4 (B_M_turnInto fz (nI 1) 1 4 (u2 m 42 1 0))) := by simp only [B_M_crash, B_M_crash_25, B_M_crash_32, vN_1, mN_1, nO_1, pO_1, ixb_1, vpb_1, om_1, ixb_0, vpb_0, s5b, s13b, c10, em, eq_self, one0, if_true, if_false, not_true_eq_false, not_false_eq_true, true_implies, false_implies, implies_true, and_true, true_and]
        refine ⟨by simp only [P_V_crash, P_V_crash_31, P_V_crash_41, P_V_crash_51, pT_isNode, pT_nodeOf, vN_1, mN_1, nO_1, pO_1, ixb_1, vpb_1, om_1, ixb_0, vpb_0, s5b, s13b, c10, q1, c11, p1, p3, w1, eq_self, one0, if_true, if_false, not_true_eq_false, not_false_eq_true, true_implies, false_implies, implies_true, and_true, true_and], by simp only [P_M_crash, P_M_crash_25, P_M_crash_32, pT_isNodeM, vN_1, mN_1, nO_1, pO_1, ixb_1, vpb_1, om_1, ixb_0, vpb_0, s5b, s13b, c10, p2, p4, pm, eq_self, one0, if_true, if_false, not_true_eq_false, not_false_eq_true, true_implies, false_implies, implies_true, and_true, true_and], ?_⟩
        rw [eV, eM]
        exact w3
      · obtain ⟨w1, w2, w3⟩ := crash_fin fz hz ht (r_set_11_1 (r_set_9_1 r3 1) 0) iT' iG ⟨c1, c2, c3, c4, c5, c6, c7, Or.inr rfl⟩ (wx_hi iW) iE (fun cl => ⟨fun w g1 g2 => cft_n1 (by decide) (cft_n1 (by decide) ((Inv_un hI cl).1 w g1 g2)), (Inv_un hI cl).2.1, (Inv_un hI cl).2.2.1, (Inv_un hI cl).2.2.2.1, (Inv_un hI cl).2.2.2.2⟩)
        have eV : B_V_crash fz (nI 1) v = B_V_crash_68 fz (u2 (u2 (B_T_changeFates fz (nI 1) 3 4 (B_T_changeFates fz (nI 1) 1 4 (u2 v 11 10 0))) 11 9 1) 11 11 0) := by simp only [B_V_crash, B_V_crash_31, B_V_crash_41, B_V_crash_51, vN_1, mN_1, nO_1, pO_1, ixb_1, vpb_1, om_1, ixb_0, vpb_0, s5b, s13b, c10, q1, c11, eq_self, one0, if_true, if_false, not_true_eq_false, not_false_eq_true, true_implies, false_implies, implies_true, and_true, true_and]
        have em : B_M_crash_39 fz (nI 1) (B_M_turnInto fz (nI 1) 3 4 (B_M_turnInto fz (nI 1) 1 4 (u2 m 42 1 0))) = B_M_crash_75 fz (u2 (u2 (B_M_turnInto fz (nI 1) 3 4 (B_M_turnInto fz (nI 1) 1 4 (u2 m 42 1 0))) 41 1 1) 43 1 0) := by
          by_cases c9 : sc 9 1 = 0
          · simp only [B_M_crash_39, B_M_crash_62, ixb_1, q2, q3, c9, c11, eq_self, one0, if_true, if_false, not_true_eq_false, not_false_eq_true, true_implies, false_implies, implies_true, and_true, true_and]
          · simp only [B_M_crash_39, B_M_crash_62, ixb_1, q2, c9, eq_self, one0, if_true, if_false, not_true_eq_false, not_false_eq_true, true_implies, false_implies, implies_true, and_true, true_and]
        have pm : P_M_crash_39 fz (nI 1) (B_M_turnInto fz (nI 1) 3 4 (B_M_turnInto fz (nI 1) 1 4 (u2 m 42 1 0))) := by
          by_cases c9 : sc 9 1 = 0
          · simp only [P_M_crash_39, P_M_crash_62, ixb_1, vpb_1, q2, q3, c9, c11, w2, eq_self, one0, if_true, if_false, not_true_eq_false, not_false_eq_true, true_implies, false_implies, implies_true, and_true, true_and]
          · simp only [P_M_crash_39, P_M_crash_62, ixb_1, vpb_1, q2, c9, w2, eq_self, one0, if_true, if_false, not_true_eq_false, not_false_eq_true, true_implies, false_implies, implies_true, and_true, true_and]
        have eM : B_M_crash fz (nI 1) m = B_M_crash_75 fz (u2 (u2 (B_M_turnInto fz (nI 1) 3 4 (B_M_turnInto fz (nI 1) 1 4 (u2 m 42 1 0))) 41 1 1) 43 1 0) := by simp only [B_M_crash, B_M_crash_25, B_M_crash_32, vN_1, mN_1, nO_1, pO_1, ixb_1, vpb_1, om_1, ixb_0, vpb_0, s5b, s13b, c10, em, eq_self, one0, if_true, if_false, not_true_eq_false, not_false_eq_true, true_implies, false_implies, implies_true, and_true, true_and]
        refine ⟨by simp only [P_V_crash, P_V_crash_31, P_V_crash_41, P_V_crash_51, pT_isNode, pT_nodeOf, vN_1, mN_1, nO_1, pO_1, ixb_1, vpb_1, om_1, ixb_0, vpb_0, s5b, s13b, c10, q1, c11, p1, p3, w1, eq_self, one0, if_true, if_false, not_true_eq_false, not_false_eq_true, true_implies, false_implies, implies_true, and_true, true_and], by simp only [P_M_crash, P_M_crash_25, P_M_crash_32, pT_isNodeM, vN_1, mN_1, nO_1, pO_1, ixb_1, vpb_1, om_1, ixb_0, vpb_0, s5b, s13b, c10, p2, p4, pm, eq_self, one0, if_true, if_false, not_true_eq_false, not_false_eq_true, true_implies, false_implies, implies_true, and_true, true_and], ?_⟩
        rw [eV, eM]
        exact w3
theorem S_restart (fz : Nat) (hz : 400 ≤ fz) {t : Nat} (ht : t ≤ 600) {v m : HH} (hJ : J2 t v m) (x : Int32) : P_V_restart fz x v ∧ P_M_restart fz x m ∧ RS t (B_V_restart fz x v) (B_M_restart fz x m) := by
  rcases ndc x with ⟨h0, h1⟩ | rfl | rfl
  · have eV : B_V_restart fz x v = (0, v) := by simp only [B_V_restart, vN_n fz v h0 h1, eq_self, one0, if_true, if_false, not_true_eq_false, not_false_eq_true, true_implies, false_implies, implies_true, and_true, true_and]
    have eM : B_M_restart fz x m = (0, m) := by simp only [B_M_restart, mN_n fz m h0 h1, eq_self, one0, if_true, if_false, not_true_eq_false, not_false_eq_true, true_implies, false_implies, implies_true, and_true, true_and]
    refine ⟨by simp only [P_V_restart, pT_isNode, vN_n fz v h0 h1, eq_self, one0, if_true, if_false, not_true_eq_false, not_false_eq_true, true_implies, false_implies, implies_true, and_true, true_and], by simp only [P_M_restart, pT_isNodeM, mN_n fz m h0 h1, eq_self, one0, if_true, if_false, not_true_eq_false, not_false_eq_true, true_implies, false_implies, implies_true, and_true, true_and], ?_⟩
    rw [eV, eM]
    exact RS.same hJ _
  · have hJ0 := hJ
    obtain ⟨n, own, blk, ep, ft, sc, lk, gr, mp, un, q, wt, wx, lg, us, pv, hR, hI⟩ := hJ
    have hR' := hR
    obtain ⟨hL, hT, hX, hS0, hM0, hD0, hR0, hA0, hW0, hG0, hU0, hE0, hS1, hM1, hD1, hR1, hA1, hW1, hG1, hU1, hE1⟩ := hR'
    have hI' := hI
    obtain ⟨iT, iG, iN0, iN1, iQ0, iQ1, iR0, iR1, iW, iC, iK, iE⟩ := hI'
    obtain ⟨s0a, s1a, s2a, s3a, s4a, s5a, s6a, s7a, s8a, s9a, s10a, s11a, s12a, s13a, s14a, s15a, s16a⟩ := hS0
    obtain ⟨s0b, s1b, s2b, s3b, s4b, s5b, s6b, s7b, s8b, s9b, s10b, s11b, s12b, s13b, s14b, s15b, s16b⟩ := hS1
    obtain ⟨l1, l2, l3, l4⟩ := hL
    by_cases c10 : sc 10 0 = 0
    · have r1 := r_set_10_0 hR 1
      have q9 : (u2 v 1 10 1) 1 9 = sc 9 0 := s4a
      have k9 : (u2 m 42 0 1) 41 0 = sc 9 0 := s12a
      have cm := cv_restart fz hz (b := 0) (by decide) (u2 m 42 0 1)
      by_cases c9 : sc 9 0 = 0
      · have er : rs 35 (32 * 0 + 0) (32 * 0 + 32) (fun k => if ¬ (u2 m 42 0 1) 41 0 = 0 ∧ ¬ (u2 m 42 0 1) 36 (8 * 0 + (k - 32 * 0) / 4) = 0 then 1 else (u2 m 42 0 1) 35 k) (u2 m 42 0 1) = u2 m 42 0 1 := rs_id (fun k h1 h2 => by rw [if_neg (fun r => r.1 (k9.trans c9))])
        rw [er] at cm
        have eV : B_V_restart fz (nI 0) v = (1, u2 v 1 10 1) := by simp only [B_V_restart, B_V_restart_31, vN_0, mN_0, nO_0, pO_0, ixb_0, vpb_0, om_0, ixb_1, vpb_1, s5a, s13a, c10, q9, c9, eq_self, one0, if_true, if_false, not_true_eq_false, not_false_eq_true, true_implies, false_implies, implies_true, and_true, true_and]
        have eM : B_M_restart fz (nI 0) m = (1, u2 m 42 0 1) := by simp only [B_M_restart, vN_0, mN_0, nO_0, pO_0, ixb_0, vpb_0, om_0, ixb_1, vpb_1, s5a, s13a, c10, cm, eq_self, one0, if_true, if_false, not_true_eq_false, not_false_eq_true, true_implies, false_implies, implies_true, and_true, true_and]
        refine ⟨by simp only [P_V_restart, P_V_restart_31, pT_isNode, pT_nodeOf, vN_0, mN_0, nO_0, pO_0, ixb_0, vpb_0, om_0, ixb_1, vpb_1, s5a, s13a, c10, q9, c9, eq_self, one0, if_true, if_false, not_true_eq_false, not_false_eq_true, true_implies, false_implies, implies_true, and_true, true_and], by simp only [P_M_restart, pT_isNodeM, vN_0, mN_0, nO_0, pO_0, ixb_0, vpb_0, om_0, ixb_1, vpb_1, s5a, s13a, c10, cm, eq_self, one0, if_true, if_false, not_true_eq_false, not_false_eq_true, true_implies, false_implies, implies_true, and_true, true_and], ?_⟩
        rw [eV, eM]
        exact ⟨rfl, n, own, blk, ep, ft, u2 sc 10 0 1, lk, gr, mp, un, q, wt, wx, lg, us, pv, r1, hI.mono (by omega)⟩
      · obtain ⟨g1, g2, g3, g4, g5, g6⟩ := hG0
        have ca := cv_allBlocks fz hz 1 (u2 v 1 10 1) (s := (lg 0).length) g1 g2 (fun p hp => ⟨(lg 0)[p], (g5 _ (List.getElem_mem hp)).1, g3 p _ (List.getElem?_eq_getElem hp)⟩)
        have hf : ∀ j, j < 32 → (fun k => if ¬ (u2 m 42 0 1) 41 0 = 0 ∧ ¬ (u2 m 42 0 1) 36 (8 * 0 + (k - 32 * 0) / 4) = 0 then 1 else (u2 m 42 0 1) 35 k) (32 * 0 + j) = bi (bt ((u2 v 1 10 1) 1 5 ||| B_E_allBlocks fz 1 (u2 v 1 10 1)) j) := by
          intro j hj
          have ej : (32 * 0 + j - 32 * 0) / 4 = j / 4 := by omega
          have e36 : (u2 m 42 0 1) 36 (8 * 0 + j / 4) = bi (decide (j / 4 ∈ lg 0)) := (g4 (j / 4) (by omega)).1
          have e35 : (u2 m 42 0 1) 35 (32 * 0 + j) = bi (mp 0 j) := (hM0 j hj).2
          have e5 : bt ((u2 v 1 10 1) 1 5) j = mp 0 j := (hM0 j hj).1
          have hiff : bt (B_E_allBlocks fz 1 (u2 v 1 10 1)) j = true ↔ j / 4 ∈ lg 0 := by
            rw [ca.2 j hj]
            constructor
            · rintro ⟨r, hr1, hr2⟩
              have h3 : (u2 v 1 10 1) (1 + 3) r = nI ((lg 0)[r]) := g3 r _ (List.getElem?_eq_getElem hr1)
              have h4 := (g5 _ (List.getElem_mem hr1)).1
              have h5 : (lg 0)[r] = j / 4 := (nI_eq (by omega) (by omega)).mp (h3.symm.trans hr2)
              rw [← h5]
              exact List.getElem_mem hr1
            · intro hm
              obtain ⟨r, hr1, hr2⟩ := List.getElem_of_mem hm
              exact ⟨r, hr1, (g3 r _ (List.getElem?_eq_getElem hr1)).trans (by rw [hr2])⟩
          show (if ¬ (u2 m 42 0 1) 41 0 = 0 ∧ ¬ (u2 m 42 0 1) 36 (8 * 0 + (32 * 0 + j - 32 * 0) / 4) = 0 then (1 : Int32) else (u2 m 42 0 1) 35 (32 * 0 + j)) = _
          rw [ej, k9, e36, e35, b_or, e5]
          by_cases hm : j / 4 ∈ lg 0
          · rw [if_pos ⟨c9, by simp [hm, bi]⟩, hiff.mpr hm, Bool.or_true]
            rfl
          · have h0 : bt (B_E_allBlocks fz 1 (u2 v 1 10 1)) j = false := by
              cases h : bt (B_E_allBlocks fz 1 (u2 v 1 10 1)) j with
              | false => rfl
              | true => exact absurd (hiff.mp h) hm
            rw [if_neg (fun r => r.2 (by simp [hm, bi])), h0, Bool.or_false]
        have r2 := r_mapall_0 (X := ((u2 v 1 10 1) 1 5 ||| B_E_allBlocks fz 1 (u2 v 1 10 1))) (f := (fun k => if ¬ (u2 m 42 0 1) 41 0 = 0 ∧ ¬ (u2 m 42 0 1) 36 (8 * 0 + (k - 32 * 0) / 4) = 0 then 1 else (u2 m 42 0 1) 35 k)) r1 hf
        have eV : B_V_restart fz (nI 0) v = (1, u2 (u2 v 1 10 1) 1 5 ((u2 v 1 10 1) 1 5 ||| B_E_allBlocks fz 1 (u2 v 1 10 1))) := by simp only [B_V_restart, B_V_restart_31, vN_0, mN_0, nO_0, pO_0, ixb_0, vpb_0, om_0, ixb_1, vpb_1, s5a, s13a, c10, q9, c9, eq_self, one0, if_true, if_false, not_true_eq_false, not_false_eq_true, true_implies, false_implies, implies_true, and_true, true_and]
        have eM : B_M_restart fz (nI 0) m = (1, rs 35 (32 * 0 + 0) (32 * 0 + 32) (fun k => if ¬ (u2 m 42 0 1) 41 0 = 0 ∧ ¬ (u2 m 42 0 1) 36 (8 * 0 + (k - 32 * 0) / 4) = 0 then 1 else (u2 m 42 0 1) 35 k) (u2 m 42 0 1)) := by simp only [B_M_restart, vN_0, mN_0, nO_0, pO_0, ixb_0, vpb_0, om_0, ixb_1, vpb_1, s5a, s13a, c10, cm, eq_self, one0, if_true, if_false, not_true_eq_false, not_false_eq_true, true_implies, false_implies, implies_true, and_true, true_and]
        refine ⟨by simp only [P_V_restart, P_V_restart_31, pT_isNode, pT_nodeOf, vN_0, mN_0, nO_0, pO_0, ixb_0, vpb_0, om_0, ixb_1, vpb_1, s5a, s13a, c10, q9, c9, ca.1, eq_self, one0, if_true, if_false, not_true_eq_false, not_false_eq_true, true_implies, false_implies, implies_true, and_true, true_and], by simp only [P_M_restart, pT_isNodeM, vN_0, mN_0, nO_0, pO_0, ixb_0, vpb_0, om_0, ixb_1, vpb_1, s5a, s13a, c10, cm, eq_self, one0, if_true, if_false, not_true_eq_false, not_false_eq_true, true_implies, false_implies, implies_true, and_true, true_and], ?_⟩
        rw [eV, eM]
        have hJm := hI.mono (show t ≤ t + 1 by omega)
        obtain ⟨jT, jG, jN0, jN1, jr⟩ := hJm
        refine ⟨rfl, n, own, blk, ep, ft, u2 sc 10 0 1, lk, gr, ug mp 0 (bt ((u2 v 1 10 1) 1 5 ||| B_E_allBlocks fz 1 (u2 v 1 10 1))), un, q, wt, wx, lg, us, pv, r2, jT, jG, ?_, jN1, jr⟩
        refine jN0.marks (fun j hj => ?_)
        obtain ⟨h1, h2, h3⟩ := jN0.2.2.2.1 j hj
        have e5 : bt ((u2 v 1 10 1) 1 5) j = mp 0 j := (hM0 j h1).1
        refine ⟨?_, h3⟩
        show bt ((u2 v 1 10 1) 1 5 ||| B_E_allBlocks fz 1 (u2 v 1 10 1)) j = true
        rw [b_or, e5, h2]
        rfl
    · have eV : B_V_restart fz (nI 0) v = (0, v) := by simp only [B_V_restart, vN_0, mN_0, nO_0, pO_0, ixb_0, vpb_0, om_0, ixb_1, vpb_1, s5a, s13a, c10, eq_self, one0, if_true, if_false, not_true_eq_false, not_false_eq_true, true_implies, false_implies, implies_true, and_true, true_and]
      have eM : B_M_restart fz (nI 0) m = (0, m) := by simp only [B_M_restart, vN_0, mN_0, nO_0, pO_0, ixb_0, vpb_0, om_0, ixb_1, vpb_1, s5a, s13a, c10, eq_self, one0, if_true, if_false, not_true_eq_false, not_false_eq_true, true_implies, false_implies, implies_true, and_true, true_and]
      refine ⟨by simp only [P_V_restart, pT_isNode, pT_nodeOf, pT_peerOf, vN_0, mN_0, nO_0, pO_0, ixb_0, vpb_0, om_0, ixb_1, vpb_1, s5a, s13a, c10, eq_self, one0, if_true, if_false, not_true_eq_false, not_false_eq_true, true_implies, false_implies, implies_true, and_true, true_and], by simp only [P_M_restart, pT_isNodeM, vN_0, mN_0, nO_0, pO_0, ixb_0, vpb_0, om_0, ixb_1, vpb_1, s5a, s13a, c10, eq_self, one0, if_true, if_false, not_true_eq_false, not_false_eq_true, true_implies, false_implies, implies_true, and_true, true_and], ?_⟩
      rw [eV, eM]
      exact RS.same hJ0 _
  · have hJ0 := hJ
    obtain ⟨n, own, blk, ep, ft, sc, lk, gr, mp, un, q, wt, wx, lg, us, pv, hR, hI⟩ := hJ
    have hR' := hR
    obtain ⟨hL, hT, hX, hS0, hM0, hD0, hR0, hA0, hW0, hG0, hU0, hE0, hS1, hM1, hD1, hR1, hA1, hW1, hG1, hU1, hE1⟩ := hR'
    have hI' := hI
    obtain ⟨iT, iG, iN0, iN1, iQ0, iQ1, iR0, iR1, iW, iC, iK, iE⟩ := hI'
    obtain ⟨s0a, s1a, s2a, s3a, s4a, s5a, s6a, s7a, s8a, s9a, s10a, s11a, s12a, s13a, s14a, s15a, s16a⟩ := hS0
    obtain ⟨s0b, s1b, s2b, s3b, s4b, s5b, s6b, s7b, s8b, s9b, s10b, s11b, s12b, s13b, s14b, s15b, s16b⟩ := hS1
    obtain ⟨l1, l2, l3, l4⟩ := hL
    by_cases c10 : sc 10 1 = 0
    · have r1 := r_set_10_1 hR 1
      have q9 : (u2 v 11 10 1) 11 9 = sc 9 1 := s4b
      have k9 : (u2 m 42 1 1) 41 1 = sc 9 1 := s12b
      have cm := cv_restart fz hz (b := 1) (by decide) (u2 m 42 1 1)
      by_cases c9 : sc 9 1 = 0
      · have er : rs 35 (32 * 1 + 0) (32 * 1 + 32) (fun k => if ¬ (u2 m 42 1 1) 41 1 = 0 ∧ ¬ (u2 m 42 1 1) 36 (8 * 1 + (k - 32 * 1) / 4) = 0 then 1 else (u2 m 42 1 1) 35 k) (u2 m 42 1 1) = u2 m 42 1 1 := rs_id (fun k h1 h2 => by rw [if_neg (fun r => r.1 (k9.trans c9))])
        rw [er] at cm
        have eV : B_V_restart fz (nI 1) v = (1, u2 v 11 10 1) := by simp only [B_V_restart, B_V_restart_31, vN_1, mN_1, nO_1, pO_1, ixb_1, vpb_1, om_1, ixb_0, vpb_0, s5b, s13b, c10, q9, c9, eq_self, one0, if_true, if_false, not_true_eq_false, not_false_eq_true, true_implies, false_implies, implies_true, and_true, true_and]
        have eM : B_M_restart fz (nI 1) m = (1, u2 m 42 1 1) := by simp only [B_M_restart, vN_1, mN_1, nO_1, pO_1, ixb_1, vpb_1, om_1, ixb_0, vpb_0, s5b, s13b, c10, cm, eq_self, one0, if_true, if_false, not_true_eq_false, not_false_eq_true, true_implies, false_implies, implies_true, and_true, true_and]
        refine ⟨by simp only [P_V_restart, P_V_restart_31, pT_isNode, pT_nodeOf, vN_1, mN_1, nO_1, pO_1, ixb_1, vpb_1, om_1, ixb_0, vpb_0, s5b, s13b, c10, q9, c9, eq_self, one0, if_true, if_false, not_true_eq_false, not_false_eq_true, true_implies, false_implies, implies_true, and_true, true_and], by simp only [P_M_restart, pT_isNodeM, vN_1, mN_1, nO_1, pO_1, ixb_1, vpb_1, om_1, ixb_0, vpb_0, s5b, s13b, c10, cm, eq_self, one0, if_true, if_false, not_true_eq_false, not_false_eq_true, true_implies, false_implies, implies_true, and_true, true_and], ?_⟩
        rw [eV, eM]
        exact ⟨rfl, n, own, blk, ep, ft, u2 sc 10 1 1, lk, gr, mp, un, q, wt, wx, lg, us, pv, r1, hI.mono (by omega)⟩
      · obtain ⟨g1, g2, g3, g4, g5, g6⟩ := hG1
        have ca := cv_allBlocks fz hz 11 (u2 v 11 10 1) (s := (lg 1).length) g1 g2 (fun p hp => ⟨(lg 1)[p], (g5 _ (List.getElem_mem hp)).1, g3 p _ (List.getElem?_eq_getElem hp)⟩)
        have hf : ∀ j, j < 32 → (fun k => if ¬ (u2 m 42 1 1) 41 1 = 0 ∧ ¬ (u2 m 42 1 1) 36 (8 * 1 + (k - 32 * 1) / 4) = 0 then 1 else (u2 m 42 1 1) 35 k) (32 * 1 + j) = bi (bt ((u2 v 11 10 1) 11 5 ||| B_E_allBlocks fz 11 (u2 v 11 10 1)) j) := by
          intro j hj
          have ej : (32 * 1 + j - 32 * 1) / 4 = j / 4 := by omega
          have e36 : (u2 m 42 1 1) 36 (8 * 1 + j / 4) = bi (decide (j / 4 ∈ lg 1)) := (g4 (j / 4) (by omega)).1
          have e35 : (u2 m 42 1 1) 35 (32 * 1 + j) = bi (mp 1 j) := (hM1 j hj).2
          have e5 : bt ((u2 v 11 10 1) 11 5) j = mp 1 j := (hM1 j hj).1
          have hiff : bt (B_E_allBlocks fz 11 (u2 v 11 10 1)) j = true ↔ j / 4 ∈ lg 1 := by
            rw [ca.2 j hj]
            constructor
            · rintro ⟨r, hr1, hr2⟩
              have h3 : (u2 v 11 10 1) (11 + 3) r = nI ((lg 1)[r]) := g3 r _ (List.getElem?_eq_getElem hr1)
              have h4 := (g5 _ (List.getElem_mem hr1)).1
              have h5 : (lg 1)[r] = j / 4 := (nI_eq (by omega) (by omega)).mp (h3.symm.trans hr2)
              rw [← h5]
              exact List.getElem_mem hr1
            · intro hm
              obtain ⟨r, hr1, hr2⟩ := List.getElem_of_mem hm
              exact ⟨r, hr1, (g3 r _ (List.getElem?_eq_getElem hr1)).trans (by rw [hr2])⟩
          show (if ¬ (u2 m 42 1 1) 41 1 = 0 ∧ ¬ (u2 m 42 1 1) 36 (8 * 1 + (32 * 1 + j - 32 * 1) / 4) = 0 then (1 : Int32) else (u2 m 42 1 1) 35 (32 * 1 + j)) = _
          rw [ej, k9, e36, e35, b_or, e5]
          by_cases hm : j / 4 ∈ lg 1
          · rw [if_pos ⟨c9, by simp [hm, bi]⟩, hiff.mpr hm, Bool.or_true]
            rfl
          · have h0 : bt (B_E_allBlocks fz 11 (u2 v 11 10 1)) j = false := by
              cases h : bt (B_E_allBlocks fz 11 (u2 v 11 10 1)) j with
              | false => rfl
              | true => exact absurd (hiff.mp h) hm
            rw [if_neg (fun r => r.2 (by simp [hm, bi])), h0, Bool.or_false]
        have r2 := r_mapall_1 (X := ((u2 v 11 10 1) 11 5 ||| B_E_allBlocks fz 11 (u2 v 11 10 1))) (f := (fun k => if ¬ (u2 m 42 1 1) 41 1 = 0 ∧ ¬ (u2 m 42 1 1) 36 (8 * 1 + (k - 32 * 1) / 4) = 0 then 1 else (u2 m 42 1 1) 35 k)) r1 hf
        have eV : B_V_restart fz (nI 1) v = (1, u2 (u2 v 11 10 1) 11 5 ((u2 v 11 10 1) 11 5 ||| B_E_allBlocks fz 11 (u2 v 11 10 1))) := by simp only [B_V_restart, B_V_restart_31, vN_1, mN_1, nO_1, pO_1, ixb_1, vpb_1, om_1, ixb_0, vpb_0, s5b, s13b, c10, q9, c9, eq_self, one0, if_true, if_false, not_true_eq_false, not_false_eq_true, true_implies, false_implies, implies_true, and_true, true_and]
        have eM : B_M_restart fz (nI 1) m = (1, rs 35 (32 * 1 + 0) (32 * 1 + 32) (fun k => if ¬ (u2 m 42 1 1) 41 1 = 0 ∧ ¬ (u2 m 42 1 1) 36 (8 * 1 + (k - 32 * 1) / 4) = 0 then 1 else (u2 m 42 1 1) 35 k) (u2 m 42 1 1)) := by simp only [B_M_restart, vN_1, mN_1, nO_1, pO_1, ixb_1, vpb_1, om_1, ixb_0, vpb_0, s5b, s13b, c10, cm, eq_self, one0, if_true, if_false, not_true_eq_false, not_false_eq_true, true_implies, false_implies, implies_true, and_true, true_and]
        refine ⟨by simp only [P_V_restart, P_V_restart_31, pT_isNode, pT_nodeOf, vN_1, mN_1, nO_1, pO_1, ixb_1, vpb_1, om_1, ixb_0, vpb_0, s5b, s13b, c10, q9, c9, ca.1, eq_self, one0, if_true, if_false, not_true_eq_false, not_false_eq_true, true_implies, false_implies, implies_true, and_true, true_and], by simp only [P_M_restart, pT_isNodeM, vN_1, mN_1, nO_1, pO_1, ixb_1, vpb_1, om_1, ixb_0, vpb_0, s5b, s13b, c10, cm, eq_self, one0, if_true, if_false, not_true_eq_false, not_false_eq_true, true_implies, false_implies, implies_true, and_true, true_and], ?_⟩
        rw [eV, eM]
        have hJm := hI.mono (show t ≤ t + 1 by omega)
        obtain ⟨jT, jG, jN0, jN1, jr⟩ := hJm
        refine ⟨rfl, n, own, blk, ep, ft, u2 sc 10 1 1, lk, gr, ug mp 1 (bt ((u2 v 11 10 1) 11 5 ||| B_E_allBlocks fz 11 (u2 v 11 10 1))), un, q, wt, wx, lg, us, pv, r2, jT, jG, jN0, ?_, jr⟩
        refine jN1.marks (fun j hj => ?_)
        obtain ⟨h1, h2, h3⟩ := jN1.2.2.2.1 j hj
        have e5 : bt ((u2 v 11 10 1) 11 5) j = mp 1 j := (hM1 j h1).1
        refine ⟨?_, h3⟩
        show bt ((u2 v 11 10 1) 11 5 ||| B_E_allBlocks fz 11 (u2 v 11 10 1)) j = true
        rw [b_or, e5, h2]
        rfl
    · have eV : B_V_restart fz (nI 1) v = (0, v) := by simp only [B_V_restart, vN_1, mN_1, nO_1, pO_1, ixb_1, vpb_1, om_1, ixb_0, vpb_0, s5b, s13b, c10, eq_self, one0, if_true, if_false, not_true_eq_false, not_false_eq_true, true_implies, false_implies, implies_true, and_true, true_and]
      have eM : B_M_restart fz (nI 1) m = (0, m) := by simp only [B_M_restart, vN_1, mN_1, nO_1, pO_1, ixb_1, vpb_1, om_1, ixb_0, vpb_0, s5b, s13b, c10, eq_self, one0, if_true, if_false, not_true_eq_false, not_false_eq_true, true_implies, false_implies, implies_true, and_true, true_and]
      refine ⟨by simp only [P_V_restart, pT_isNode, pT_nodeOf, pT_peerOf, vN_1, mN_1, nO_1, pO_1, ixb_1, vpb_1, om_1, ixb_0, vpb_0, s5b, s13b, c10, eq_self, one0, if_true, if_false, not_true_eq_false, not_false_eq_true, true_implies, false_implies, implies_true, and_true, true_and], by simp only [P_M_restart, pT_isNodeM, vN_1, mN_1, nO_1, pO_1, ixb_1, vpb_1, om_1, ixb_0, vpb_0, s5b, s13b, c10, eq_self, one0, if_true, if_false, not_true_eq_false, not_false_eq_true, true_implies, false_implies, implies_true, and_true, true_and], ?_⟩
      rw [eV, eM]
      exact RS.same hJ0 _
theorem S_discard (fz : Nat) (hz : 400 ≤ fz) {t : Nat} (ht : t ≤ 600) {v m : HH} (hJ : J2 t v m) (x : Int32) : P_V_discard fz x v ∧ P_M_discard fz x m ∧ RS t (B_V_discard fz x v) (B_M_discard fz x m) := by
  rcases ndc x with ⟨h0, h1⟩ | rfl | rfl
  · have eV : B_V_discard fz x v = (0, v) := by simp only [B_V_discard, vN_n fz v h0 h1, eq_self, one0, if_true, if_false, not_true_eq_false, not_false_eq_true, true_implies, false_implies, implies_true, and_true, true_and]
    have eM : B_M_discard fz x m = (0, m) := by simp only [B_M_discard, mN_n fz m h0 h1, eq_self, one0, if_true, if_false, not_true_eq_false, not_false_eq_true, true_implies, false_implies, implies_true, and_true, true_and]
    refine ⟨by simp only [P_V_discard, pT_isNode, vN_n fz v h0 h1, eq_self, one0, if_true, if_false, not_true_eq_false, not_false_eq_true, true_implies, false_implies, implies_true, and_true, true_and], by simp only [P_M_discard, pT_isNodeM, mN_n fz m h0 h1, eq_self, one0, if_true, if_false, not_true_eq_false, not_false_eq_true, true_implies, false_implies, implies_true, and_true, true_and], ?_⟩
    rw [eV, eM]
    exact RS.same hJ _
  · have hJ0 := hJ
    obtain ⟨n, own, blk, ep, ft, sc, lk, gr, mp, un, q, wt, wx, lg, us, pv, hR, hI⟩ := hJ
    have hR' := hR
    obtain ⟨hL, hT, hX, hS0, hM0, hD0, hR0, hA0, hW0, hG0, hU0, hE0, hS1, hM1, hD1, hR1, hA1, hW1, hG1, hU1, hE1⟩ := hR'
    have hI' := hI
    obtain ⟨iT, iG, iN0, iN1, iQ0, iQ1, iR0, iR1, iW, iC, iK, iE⟩ := hI'
    obtain ⟨s0a, s1a, s2a, s3a, s4a, s5a, s6a, s7a, s8a, s9a, s10a, s11a, s12a, s13a, s14a, s15a, s16a⟩ := hS0
    obtain ⟨s0b, s1b, s2b, s3b, s4b, s5b, s6b, s7b, s8b, s9b, s10b, s11b, s12b, s13b, s14b, s15b, s16b⟩ := hS1
    obtain ⟨l1, l2, l3, l4⟩ := hL
    by_cases c10 : sc 10 0 = 0
    · by_cases cl : lk = 0
      · have eV : B_V_discard fz (nI 0) v = (0, v) := by simp only [B_V_discard, vN_0, mN_0, nO_0, pO_0, ixb_0, vpb_0, om_0, ixb_1, vpb_1, s5a, s13a, s6a, s14a, s3b, s11b, l1, l3, c10, cl, eq_self, one0, if_true, if_false, not_true_eq_false, not_false_eq_true, true_implies, false_implies, implies_true, and_true, true_and]
        have eM : B_M_discard fz (nI 0) m = (0, m) := by simp only [B_M_discard, vN_0, mN_0, nO_0, pO_0, ixb_0, vpb_0, om_0, ixb_1, vpb_1, s5a, s13a, s6a, s14a, s3b, s11b, l1, l3, c10, cl, eq_self, one0, if_true, if_false, not_true_eq_false, not_false_eq_true, true_implies, false_implies, implies_true, and_true, true_and]
        refine ⟨by simp only [P_V_discard, pT_isNode, pT_nodeOf, pT_peerOf, vN_0, mN_0, nO_0, pO_0, ixb_0, vpb_0, om_0, ixb_1, vpb_1, s5a, s13a, s6a, s14a, s3b, s11b, l1, l3, c10, cl, eq_self, one0, if_true, if_false, not_true_eq_false, not_false_eq_true, true_implies, false_implies, implies_true, and_true, true_and], by simp only [P_M_discard, pT_isNodeM, vN_0, mN_0, nO_0, pO_0, ixb_0, vpb_0, om_0, ixb_1, vpb_1, s5a, s13a, s6a, s14a, s3b, s11b, l1, l3, c10, cl, eq_self, one0, if_true, if_false, not_true_eq_false, not_false_eq_true, true_implies, false_implies, implies_true, and_true, true_and], ?_⟩
        rw [eV, eM]
        exact RS.same hJ0 _
      · have eV : B_V_discard fz (nI 0) v = (0, v) := by simp only [B_V_discard, vN_0, mN_0, nO_0, pO_0, ixb_0, vpb_0, om_0, ixb_1, vpb_1, s5a, s13a, s6a, s14a, s3b, s11b, l1, l3, c10, cl, eq_self, one0, if_true, if_false, not_true_eq_false, not_false_eq_true, true_implies, false_implies, implies_true, and_true, true_and]
        have eM : B_M_discard fz (nI 0) m = (0, m) := by simp only [B_M_discard, vN_0, mN_0, nO_0, pO_0, ixb_0, vpb_0, om_0, ixb_1, vpb_1, s5a, s13a, s6a, s14a, s3b, s11b, l1, l3, c10, cl, eq_self, one0, if_true, if_false, not_true_eq_false, not_false_eq_true, true_implies, false_implies, implies_true, and_true, true_and]
        refine ⟨by simp only [P_V_discard, pT_isNode, pT_nodeOf, pT_peerOf, vN_0, mN_0, nO_0, pO_0, ixb_0, vpb_0, om_0, ixb_1, vpb_1, s5a, s13a, s6a, s14a, s3b, s11b, l1, l3, c10, cl, eq_self, one0, if_true, if_false, not_true_eq_false, not_false_eq_true, true_implies, false_implies, implies_true, and_true, true_and], by simp only [P_M_discard, pT_isNodeM, vN_0, mN_0, nO_0, pO_0, ixb_0, vpb_0, om_0, ixb_1, vpb_1, s5a, s13a, s6a, s14a, s3b, s11b, l1, l3, c10, cl, eq_self, one0, if_true, if_false, not_true_eq_false, not_false_eq_true, true_implies, false_implies, implies_true, and_true, true_and], ?_⟩
        rw [eV, eM]
        exact RS.same hJ0 _
    · by_cases c11 : sc 11 0 = 0
      · by_cases cl : lk = 0
        · by_cases c8 : sc 8 1 = 0
          · have r1 := r_mapall_0 (X := 0) (f := fun _ => 0) (r_set_7_0 (r_set_6_0 (r_set_9_0 (r_set_8_0 hR 1) 0) 0) 0) (fun j _ => by rw [b_0]; rfl)
            obtain ⟨p1, p2, r2⟩ := r_chft fz hz iT.1 (fun w g1 g2 => ⟨(iT.2 w g1 g2).1, (iT.2 w g1 g2).2.2.2⟩) r1 (b := 0) (a := 3) (y := 4) (by decide) (by decide) (xb := nI 0) rfl (xb2 := nI 0) rfl li3 li4
            have cd := cv_discard fz hz (b := 0) (by decide) (u2 (u2 (u2 (u2 m 40 0 1) 41 0 0) 38 0 0) 39 0 0) p2
            have eV : B_V_discard fz (nI 0) v = (1, B_T_changeFates fz (nI 0) 3 4 (u2 (u2 (u2 (u2 (u2 v 1 8 1) 1 9 0) 1 6 0) 1 7 0) 1 5 0)) := by simp only [B_V_discard, B_V_discard_74, vN_0, mN_0, nO_0, pO_0, ixb_0, vpb_0, om_0, ixb_1, vpb_1, s5a, s13a, s6a, s14a, s3b, s11b, l1, l3, c10, c11, cl, c8, eq_self, one0, if_true, if_false, not_true_eq_false, not_false_eq_true, true_implies, false_implies, implies_true, and_true, true_and]
            have eM : B_M_discard fz (nI 0) m = (1, B_M_turnInto fz (nI 0) 3 4 (rs 35 (32 * 0 + 0) (32 * 0 + 32) (fun _ => 0) (u2 (u2 (u2 (u2 m 40 0 1) 41 0 0) 38 0 0) 39 0 0))) := by simp only [B_M_discard, vN_0, mN_0, nO_0, pO_0, ixb_0, vpb_0, om_0, ixb_1, vpb_1, s5a, s13a, s6a, s14a, s3b, s11b, l1, l3, c10, c11, cl, c8, cd, eq_self, one0, if_true, if_false, not_true_eq_false, not_false_eq_true, true_implies, false_implies, implies_true, and_true, true_and]
            refine ⟨by simp only [P_V_discard, P_V_discard_74, pT_isNode, pT_nodeOf, pT_peerOf, vN_0, mN_0, nO_0, pO_0, ixb_0, vpb_0, om_0, ixb_1, vpb_1, s5a, s13a, s6a, s14a, s3b, s11b, l1, l3, c10, c11, cl, c8, p1, eq_self, one0, if_true, if_false, not_true_eq_false, not_false_eq_true, true_implies, false_implies, implies_true, and_true, true_and], by simp only [P_M_discard, pT_isNodeM, vN_0, mN_0, nO_0, pO_0, ixb_0, vpb_0, om_0, ixb_1, vpb_1, s5a, s13a, s6a, s14a, s3b, s11b, l1, l3, c10, c11, cl, c8, cd, eq_self, one0, if_true, if_false, not_true_eq_false, not_false_eq_true, true_implies, false_implies, implies_true, and_true, true_and], ?_⟩
            rw [eV, eM]
            obtain ⟨u1, u2', u3, ⟨u4, u5, u6, u7, u8, u9⟩, u10⟩ := Inv_un hI cl
            obtain ⟨g, g1, g2, g3⟩ := iG
            obtain ⟨c1, c2, c3, c4, c5, c6, c7', c8'⟩ := iC
            refine ⟨rfl, n, own, blk, ep, cft own ft 0 3 4 n, u2 (u2 (u2 (u2 sc 8 0 1) 9 0 0) 6 0 0) 7 0 0, lk, gr, ug mp 0 (bt 0), un, q, wt, wx, lg, us, pv, r2, Inv_down ⟨iT.1, fun w g1 g2 => ⟨(iT.2 w g1 g2).1, (iT.2 w g1 g2).2.1, (iT.2 w g1 g2).2.2.1, cft_lt (iT.2 w g1 g2).2.2.2 (by decide)⟩⟩ ⟨g, g1, g2, by omega⟩ (fun w h1 h2 => cft_n1 (by decide) (u1 w h1 h2)) u2' u3 u4 u5 u6 u7 u10 u8 u9 ?_ iE⟩
            exact ⟨fun _ => one0, fun r => absurd c8 (c2 r), fun r => absurd c8 r.2, fun r => absurd rfl r, fun r => absurd rfl r, fun r => absurd rfl r.1, Or.inl rfl, c8'⟩
          · have eV : B_V_discard fz (nI 0) v = (0, v) := by simp only [B_V_discard, vN_0, mN_0, nO_0, pO_0, ixb_0, vpb_0, om_0, ixb_1, vpb_1, s5a, s13a, s6a, s14a, s3b, s11b, l1, l3, c10, c11, cl, c8, eq_self, one0, if_true, if_false, not_true_eq_false, not_false_eq_true, true_implies, false_implies, implies_true, and_true, true_and]
            have eM : B_M_discard fz (nI 0) m = (0, m) := by simp only [B_M_discard, vN_0, mN_0, nO_0, pO_0, ixb_0, vpb_0, om_0, ixb_1, vpb_1, s5a, s13a, s6a, s14a, s3b, s11b, l1, l3, c10, c11, cl, c8, eq_self, one0, if_true, if_false, not_true_eq_false, not_false_eq_true, true_implies, false_implies, implies_true, and_true, true_and]
            refine ⟨by simp only [P_V_discard, pT_isNode, pT_nodeOf, pT_peerOf, vN_0, mN_0, nO_0, pO_0, ixb_0, vpb_0, om_0, ixb_1, vpb_1, s5a, s13a, s6a, s14a, s3b, s11b, l1, l3, c10, c11, cl, c8, eq_self, one0, if_true, if_false, not_true_eq_false, not_false_eq_true, true_implies, false_implies, implies_true, and_true, true_and], by simp only [P_M_discard, pT_isNodeM, vN_0, mN_0, nO_0, pO_0, ixb_0, vpb_0, om_0, ixb_1, vpb_1, s5a, s13a, s6a, s14a, s3b, s11b, l1, l3, c10, c11, cl, c8, eq_self, one0, if_true, if_false, not_true_eq_false, not_false_eq_true, true_implies, false_implies, implies_true, and_true, true_and], ?_⟩
            rw [eV, eM]
            exact RS.same hJ0 _
        · have eV : B_V_discard fz (nI 0) v = (0, v) := by simp only [B_V_discard, vN_0, mN_0, nO_0, pO_0, ixb_0, vpb_0, om_0, ixb_1, vpb_1, s5a, s13a, s6a, s14a, s3b, s11b, l1, l3, c10, c11, cl, eq_self, one0, if_true, if_false, not_true_eq_false, not_false_eq_true, true_implies, false_implies, implies_true, and_true, true_and]
          have eM : B_M_discard fz (nI 0) m = (0, m) := by simp only [B_M_discard, vN_0, mN_0, nO_0, pO_0, ixb_0, vpb_0, om_0, ixb_1, vpb_1, s5a, s13a, s6a, s14a, s3b, s11b, l1, l3, c10, c11, cl, eq_self, one0, if_true, if_false, not_true_eq_false, not_false_eq_true, true_implies, false_implies, implies_true, and_true, true_and]
          refine ⟨by simp only [P_V_discard, pT_isNode, pT_nodeOf, pT_peerOf, vN_0, mN_0, nO_0, pO_0, ixb_0, vpb_0, om_0, ixb_1, vpb_1, s5a, s13a, s6a, s14a, s3b, s11b, l1, l3, c10, c11, cl, eq_self, one0, if_true, if_false, not_true_eq_false, not_false_eq_true, true_implies, false_implies, implies_true, and_true, true_and], by simp only [P_M_discard, pT_isNodeM, vN_0, mN_0, nO_0, pO_0, ixb_0, vpb_0, om_0, ixb_1, vpb_1, s5a, s13a, s6a, s14a, s3b, s11b, l1, l3, c10, c11, cl, eq_self, one0, if_true, if_false, not_true_eq_false, not_false_eq_true, true_implies, false_implies, implies_true, and_true, true_and], ?_⟩
          rw [eV, eM]
          exact RS.same hJ0 _
      · by_cases cl : lk = 0
        · have eV : B_V_discard fz (nI 0) v = (0, v) := by simp only [B_V_discard, vN_0, mN_0, nO_0, pO_0, ixb_0, vpb_0, om_0, ixb_1, vpb_1, s5a, s13a, s6a, s14a, s3b, s11b, l1, l3, c10, c11, cl, eq_self, one0, if_true, if_false, not_true_eq_false, not_false_eq_true, true_implies, false_implies, implies_true, and_true, true_and]
          have eM : B_M_discard fz (nI 0) m = (0, m) := by simp only [B_M_discard, vN_0, mN_0, nO_0, pO_0, ixb_0, vpb_0, om_0, ixb_1, vpb_1, s5a, s13a, s6a, s14a, s3b, s11b, l1, l3, c10, c11, cl, eq_self, one0, if_true, if_false, not_true_eq_false, not_false_eq_true, true_implies, false_implies, implies_true, and_true, true_and]
          refine ⟨by simp only [P_V_discard, pT_isNode, pT_nodeOf, pT_peerOf, vN_0, mN_0, nO_0, pO_0, ixb_0, vpb_0, om_0, ixb_1, vpb_1, s5a, s13a, s6a, s14a, s3b, s11b, l1, l3, c10, c11, cl, eq_self, one0, if_true, if_false, not_true_eq_false, not_false_eq_true, true_implies, false_implies, implies_true, and_true, true_and], by simp only [P_M_discard, pT_isNodeM, vN_0, mN_0, nO_0, pO_0, ixb_0, vpb_0, om_0, ixb_1, vpb_1, s5a, s13a, s6a, s14a, s3b, s11b, l1, l3, c10, c11, cl, eq_self, one0, if_true, if_false, not_true_eq_false, not_false_eq_true, true_implies, false_implies, implies_true, and_true, true_and], ?_⟩
          rw [eV, eM]
          exact RS.same hJ0 _
        · have eV : B_V_discard fz (nI 0) v = (0, v) := by simp only [B_V_discard, vN_0, mN_0, nO_0, pO_0, ixb_0, vpb_0, om_0, ixb_1, vpb_1, s5a, s13a, s6a, s14a, s3b, s11b, l1, l3, c10, c11, cl, eq_self, one0, if_true, if_false, not_true_eq_false, not_false_eq_true, true_implies, false_implies, implies_true, and_true, true_and]
          have eM : B_M_discard fz (nI 0) m = (0, m) := by simp only [B_M_discard, vN_0, mN_0, nO_0, pO_0, ixb_0, vpb_0, om_0, ixb_1, vpb_1, s5a, s13a, s6a, s14a, s3b, s11b, l1, l3, c10, c11, cl, eq_self, one0, if_true, if_false, not_true_eq_false, not_false_eq_true, true_implies, false_implies, implies_true, and_true, true_and]
          refine ⟨by simp only [P_V_discard, pT_isNode, pT_nodeOf, pT_peerOf, vN_0, mN_0, nO_0, pO_0, ixb_0, vpb_0, om_0, ixb_1, vpb_1, s5a, s13a, s6a, s14a, s3b, s11b, l1, l3, c10, c11, cl, eq_self, one0, if_true, if_false, not_true_eq_false, not_false_eq_true, true_implies, false_implies, implies_true, and_true, true_and], by simp only [P_M_discard, pT_isNodeM, vN_0, mN_0, nO_0, pO_0, ixb_0, vpb_0, om_0, ixb_1, vpb_1, s5a, s13a, s6a, s14a, s3b, s11b, l1, l3, c10, c11, cl, eq_self, one0, if_true, if_false, not_true_eq_false, not_false_eq_true, true_implies, false_implies, implies_true, and_true, true_and], ?_⟩
          rw [eV, eM]
          exact RS.same hJ0 _
  · have hJ0 := hJ
    obtain ⟨n, own, blk, ep, ft, sc, lk, gr, mp, un, q, wt, wx, lg, us, pv, hR, hI⟩ := hJ
    have hR' := hR
    obtain ⟨hL, hT, hX, hS0, hM0, hD0, hR0, hA0, hW0, hG0, hU0, hE0, hS1, hM1, hD1, hR1, hA1, hW1, hG1, hU1, hE1⟩ := hR'
    have hI' := hI
    obtain ⟨iT, iG, iN0, iN1, iQ0, iQ1, iR0, iR1, iW, iC, iK, iE⟩ := hI'
    obtain ⟨s0a, s1a, s2a, s3a, s4a, s5a, s6a, s7a, s8a, s9a, s10a, s11a, s12a, s13a, s14a, s15a, s16a⟩ := hS0
    obtain ⟨s0b, s1b, s2b, s3b, s4b, s5b, s6b, s7b, s8b, s9b, s10b, s11b, s12b, s13b, s14b, s15b, s16b⟩ := hS1
    obtain ⟨l1, l2, l3, l4⟩ := hL
    by_cases c10 : sc 10 1 = 0
    · by_cases cl : lk = 0
      · have eV : B_V_discard fz (nI 1) v = (0, v) := by simp only [B_V_discard, vN_1, mN_1, nO_1, pO_1, ixb_1, vpb_1, om_1, ixb_0, vpb_0, s5b, s13b, s6b, s14b, s3a, s11a, l1, l3, c10, cl, eq_self, one0, if_true, if_false, not_true_eq_false, not_false_eq_true, true_implies, false_implies, implies_true, and_true, true_and]
        have eM : B_M_discard fz (nI 1) m = (0, m) := by simp only [B_M_discard, vN_1, mN_1, nO_1, pO_1, ixb_1, vpb_1, om_1, ixb_0, vpb_0, s5b, s13b, s6b, s14b, s3a, s11a, l1, l3, c10, cl, eq_self, one0, if_true, if_false, not_true_eq_false, not_false_eq_true, true_implies, false_implies, implies_true, and_true, true_and]
        refine ⟨by simp only [P_V_discard, pT_isNode, pT_nodeOf, pT_peerOf, vN_1, mN_1, nO_1, pO_1, ixb_1, vpb_1, om_1, ixb_0, vpb_0, s5b, s13b, s6b, s14b, s3a, s11a, l1, l3, c10, cl, eq_self, one0, if_true, if_false, not_true_eq_false, not_false_eq_true, true_implies, false_implies, implies_true, and_true, true_and], by simp only [P_M_discard, pT_isNodeM, vN_1, mN_1, nO_1, pO_1, ixb_1, vpb_1, om_1, ixb_0, vpb_0, s5b, s13b, s6b, s14b, s3a, s11a, l1, l3, c10, cl, eq_self, one0, if_true, if_false, not_true_eq_false, not_false_eq_true, true_implies, false_implies, implies_true, and_true, true_and], ?_⟩
        rw [eV, eM]
        exact RS.same hJ0 _
      · have eV : B_V_discard fz (nI 1) v = (0, v) := by simp only [B_V_discard, vN_1, mN_1, nO_1, pO_1, ixb_1, vpb_1, om_1, ixb_0, vpb_0, s5b, s13b, s6b, s14b, s3a, s11a, l1, l3, c10, cl, eq_self, one0, if_true, if_false, not_true_eq_false, not_false_eq_true, true_implies, false_implies, implies_true, and_true, true_and]
        have eM : B_M_discard fz (nI 1) m = (0, m) := by simp only [B_M_discard, vN_1, mN_1, nO_1, pO_1, ixb_1, vpb_1, om_1, ixb_0, vpb_0, s5b, s13b, s6b, s14b, s3a, s11a, l1, l3, c10, cl, eq_self, one0, if_true, if_false, not_true_eq_false, not_false_eq_true, true_implies, false_implies, implies_true, and_true, true_and]
        refine ⟨by simp only [P_V_discard, pT_isNode, pT_nodeOf, pT_peerOf, vN_1, mN_1, nO_1, pO_1, ixb_1, vpb_1, om_1, ixb_0, vpb_0, s5b, s13b, s6b, s14b, s3a, s11a, l1, l3, c10, cl, eq_self, one0, if_true, if_false, not_true_eq_false, not_false_eq_true, true_implies, false_implies, implies_true, and_true, true_and], by simp only [P_M_discard, pT_isNodeM, vN_1, mN_1, nO_1, pO_1, ixb_1, vpb_1, om_1, ixb_0, vpb_0, s5b, s13b, s6b, s14b, s3a, s11a, l1, l3, c10, cl, eq_self, one0, if_true, if_false, not_true_eq_false, not_false_eq_true, true_implies, false_implies, implies_true, and_true, true_and], ?_⟩
        rw [eV, eM]
        exact RS.same hJ0 _
    · by_cases c11 : sc 11 1 = 0
      · by_cases cl : lk = 0
        · by_cases c8 : sc 8 0 = 0
          · have r1 := r_mapall_1 (X := 0) (f := fun _ => 0) (r_set_7_1 (r_set_6_1 (r_set_9_1 (r_set_8_1 hR 1) 0) 0) 0) (fun j _ => by rw [b_0]; rfl)
            obtain ⟨p1, p2, r2⟩ := r_chft fz hz iT.1 (fun w g1 g2 => ⟨(iT.2 w g1 g2).1, (iT.2 w g1 g2).2.2.2⟩) r1 (b := 1) (a := 3) (y := 4) (by decide) (by decide) (xb := nI 1) rfl (xb2 := nI 1) rfl li3 li4
            have cd := cv_discard fz hz (b := 1) (by decide) (u2 (u2 (u2 (u2 m 40 1 1) 41 1 0) 38 1 0) 39 1 0) p2
            have eV : B_V_discard fz (nI 1) v = (1, B_T_changeFates fz (nI 1) 3 4 (u2 (u2 (u2 (u2 (u2 v 11 8 1) 11 9 0) 11 6 0) 11 7 0) 11 5 0)) := by simp only [B_V_discard, B_V_discard_74, vN_1, mN_1, nO_1, pO_1, ixb_1, vpb_1, om_1, ixb_0, vpb_0, s5b, s13b, s6b, s14b, s3a, s11a, l1, l3, c10, c11, cl, c8, eq_self, one0, if_true, if_false, not_true_eq_false, not_false_eq_true, true_implies, false_implies, implies_true, and_true, true_and]
            have eM : B_M_discard fz (nI 1) m = (1, B_M_turnInto fz (nI 1) 3 4 (rs 35 (32 * 1 + 0) (32 * 1 + 32) (fun _ => 0) (u2 (u2 (u2 (u2 m 40 1 1) 41 1 0) 38 1 0) 39 1 0))) := by simp only [B_M_discard, vN_1, mN_1, nO_1, pO_1, ixb_1, vpb_1, om_1, ixb_0, vpb_0, s5b, s13b, s6b, s14b, s3a, s11a, l1, l3, c10, c11, cl, c8, cd, eq_self, one0, if_true, if_false, not_true_eq_false, not_false_eq_true, true_implies, false_implies, implies_true, and_true, true_and]
            refine ⟨by simp only [P_V_discard, P_V_discard_74, pT_isNode, pT_nodeOf, pT_peerOf, vN_1, mN_1, nO_1, pO_1, ixb_1, vpb_1, om_1, ixb_0, vpb_0, s5b, s13b, s6b, s14b, s3a, s11a, l1, l3, c10, c11, cl, c8, p1, eq_self, one0, if_true, if_false, not_true_eq_false, not_false_eq_true, true_implies, false_implies, implies_true, and_true, true_and], by simp only [P_M_discard, pT_isNodeM, vN_1, mN_1, nO_1, pO_1, ixb_1, vpb_1, om_1, ixb_0, vpb_0, s5b, s13b, s6b, s14b, s3a, s11a, l1, l3, c10, c11, cl, c8, cd, eq_self, one0, if_true, if_false, not_true_eq_false, not_false_eq_true, true_implies, false_implies, implies_true, and_true, true_and], ?_⟩
            rw [eV, eM]
            obtain ⟨u1, u2', u3, ⟨u4, u5, u6, u7, u8, u9⟩, u10⟩ := Inv_un hI cl
            obtain ⟨g, g1, g2, g3⟩ := iG
            obtain ⟨c1, c2, c3, c4, c5, c6, c7', c8'⟩ := iC
            refine ⟨rfl, n, own, blk, ep, cft own ft 1 3 4 n, u2 (u2 (u2 (u2 sc 8 1 1) 9 1 0) 6 1 0) 7 1 0, lk, gr, ug mp 1 (bt 0), un, q, wt, wx, lg, us, pv, r2, Inv_down ⟨iT.1, fun w g1 g2 => ⟨(iT.2 w g1 g2).1, (iT.2 w g1 g2).2.1, (iT.2 w g1 g2).2.2.1, cft_lt (iT.2 w g1 g2).2.2.2 (by decide)⟩⟩ ⟨g, g1, g2, by omega⟩ (fun w h1 h2 => cft_n1 (by decide) (u1 w h1 h2)) u2' u3 u4 u5 u6 u7 u10 u8 u9 ?_ iE⟩
            exact ⟨fun r => absurd c8 (c1 r), fun _ => one0, fun r => absurd c8 r.1, fun r => absurd rfl r, fun r => absurd rfl r, fun r => absurd rfl r.1, c7', Or.inl rfl⟩
          · have eV : B_V_discard fz (nI 1) v = (0, v) := by simp only [B_V_discard, vN_1, mN_1, nO_1, pO_1, ixb_1, vpb_1, om_1, ixb_0, vpb_0, s5b, s13b, s6b, s14b, s3a, s11a, l1, l3, c10, c11, cl, c8, eq_self, one0, if_true, if_false, not_true_eq_false, not_false_eq_true, true_implies, false_implies, implies_true, and_true, true_and]
            have eM : B_M_discard fz (nI 1) m = (0, m) := by simp only [B_M_discard, vN_1, mN_1, nO_1, pO_1, ixb_1, vpb_1, om_1, ixb_0, vpb_0, s5b, s13b, s6b, s14b, s3a, s11a, l1, l3, c10, c11, cl, c8, eq_self, one0, if_true, if_false, not_true_eq_false, not_false_eq_true, true_implies, false_implies, implies_true, and_true, true_and]
            refine ⟨by simp only [P_V_discard, pT_isNode, pT_nodeOf, pT_peerOf, vN_1, mN_1, nO_1, pO_1, ixb_1, vpb_1, om_1, ixb_0, vpb_0, s5b, s13b, s6b, s14b, s3a, s11a, l1, l3, c10, c11, cl, c8, eq_self, one0, if_true, if_false, not_true_eq_false, not_false_eq_true, true_implies, false_implies, implies_true, and_true, true_and], by simp only [P_M_discard, pT_isNodeM, vN_1, mN_1, nO_1, pO_1, ixb_1, vpb_1, om_1, ixb_0, vpb_0, s5b, s13b, s6b, s14b, s3a, s11a, l1, l3, c10, c11, cl, c8, eq_self, one0, if_true, if_false, not_true_eq_false, not_false_eq_true, true_implies, false_implies, implies_true, and_true, true_and], ?_⟩
            rw [eV, eM]
            exact RS.same hJ0 _
        · have eV : B_V_discard fz (nI 1) v = (0, v) := by simp only [B_V_discard, vN_1, mN_1, nO_1, pO_1, ixb_1, vpb_1, om_1, ixb_0, vpb_0, s5b, s13b, s6b, s14b, s3a, s11a, l1, l3, c10, c11, cl, eq_self, one0, if_true, if_false, not_true_eq_false, not_false_eq_true, true_implies, false_implies, implies_true, and_true, true_and]
          have eM : B_M_discard fz (nI 1) m = (0, m) := by simp only [B_M_discard, vN_1, mN_1, nO_1, pO_1, ixb_1, vpb_1, om_1, ixb_0, vpb_0, s5b, s13b, s6b, s14b, s3a, s11a, l1, l3, c10, c11, cl, eq_self, one0, if_true, if_false, not_true_eq_false, not_false_eq_true, true_implies, false_implies, implies_true, and_true, true_and]
          refine ⟨by simp only [P_V_discard, pT_isNode, pT_nodeOf, pT_peerOf, vN_1, mN_1, nO_1, pO_1, ixb_1, vpb_1, om_1, ixb_0, vpb_0, s5b, s13b, s6b, s14b, s3a, s11a, l1, l3, c10, c11, cl, eq_self, one0, if_true, if_false, not_true_eq_false, not_false_eq_true, true_implies, false_implies, implies_true, and_true, true_and], by simp only [P_M_discard, pT_isNodeM, vN_1, mN_1, nO_1, pO_1, ixb_1, vpb_1, om_1, ixb_0, vpb_0, s5b, s13b, s6b, s14b, s3a, s11a, l1, l3, c10, c11, cl, eq_self, one0, if_true, if_false, not_true_eq_false, not_false_eq_true, true_implies, false_implies, implies_true, and_true, true_and], ?_⟩
          rw [eV, eM]
          exact RS.same hJ0 _
      · by_cases cl : lk = 0
        · have eV : B_V_discard fz (nI 1) v = (0, v) := by simp only [B_V_discard, vN_1, mN_1, nO_1, pO_1, ixb_1, vpb_1, om_1, ixb_0, vpb_0, s5b, s13b, s6b, s14b, s3a, s11a, l1, l3, c10, c11, cl, eq_self, one0, if_true, if_false, not_true_eq_false, not_false_eq_true, true_implies, false_implies, implies_true, and_true, true_and]
          have eM : B_M_discard fz (nI 1) m = (0, m) := by simp only [B_M_discard, vN_1, mN_1, nO_1, pO_1, ixb_1, vpb_1, om_1, ixb_0, vpb_0, s5b, s13b, s6b, s14b, s3a, s11a, l1, l3, c10, c11, cl, eq_self, one0, if_true, if_false, not_true_eq_false, not_false_eq_true, true_implies, false_implies, implies_true, and_true, true_and]
          refine ⟨by simp only [P_V_discard, pT_isNode, pT_nodeOf, pT_peerOf, vN_1, mN_1, nO_1, pO_1, ixb_1, vpb_1, om_1, ixb_0, vpb_0, s5b, s13b, s6b, s14b, s3a, s11a, l1, l3, c10, c11, cl, eq_self, one0, if_true, if_false, not_true_eq_false, not_false_eq_true, true_implies, false_implies, implies_true, and_true, true_and], by simp only [P_M_discard, pT_isNodeM, vN_1, mN_1, nO_1, pO_1, ixb_1, vpb_1, om_1, ixb_0, vpb_0, s5b, s13b, s6b, s14b, s3a, s11a, l1, l3, c10, c11, cl, eq_self, one0, if_true, if_false, not_true_eq_false, not_false_eq_true, true_implies, false_implies, implies_true, and_true, true_and], ?_⟩
          rw [eV, eM]
          exact RS.same hJ0 _
        · have eV : B_V_discard fz (nI 1) v = (0, v) := by simp only [B_V_discard, vN_1, mN_1, nO_1, pO_1, ixb_1, vpb_1, om_1, ixb_0, vpb_0, s5b, s13b, s6b, s14b, s3a, s11a, l1, l3, c10, c11, cl, eq_self, one0, if_true, if_false, not_true_eq_false, not_false_eq_true, true_implies, false_implies, implies_true, and_true, true_and]
          have eM : B_M_discard fz (nI 1) m = (0, m) := by simp only [B_M_discard, vN_1, mN_1, nO_1, pO_1, ixb_1, vpb_1, om_1, ixb_0, vpb_0, s5b, s13b, s6b, s14b, s3a, s11a, l1, l3, c10, c11, cl, eq_self, one0, if_true, if_false, not_true_eq_false, not_false_eq_true, true_implies, false_implies, implies_true, and_true, true_and]
          refine ⟨by simp only [P_V_discard, pT_isNode, pT_nodeOf, pT_peerOf, vN_1, mN_1, nO_1, pO_1, ixb_1, vpb_1, om_1, ixb_0, vpb_0, s5b, s13b, s6b, s14b, s3a, s11a, l1, l3, c10, c11, cl, eq_self, one0, if_true, if_false, not_true_eq_false, not_false_eq_true, true_implies, false_implies, implies_true, and_true, true_and], by simp only [P_M_discard, pT_isNodeM, vN_1, mN_1, nO_1, pO_1, ixb_1, vpb_1, om_1, ixb_0, vpb_0, s5b, s13b, s6b, s14b, s3a, s11a, l1, l3, c10, c11, cl, eq_self, one0, if_true, if_false, not_true_eq_false, not_false_eq_true, true_implies, false_implies, implies_true, and_true, true_and], ?_⟩
          rw [eV, eM]
          exact RS.same hJ0 _
end
section
theorem asc_ext {l l' : List Nat} (h : l.Pairwise (fun a b => a < b)) (h' : l'.Pairwise (fun a b => a < b)) (he : ∀ x, x ∈ l ↔ x ∈ l') : l = l' := by
  have nd : l.Nodup := h.imp (fun r => Nat.ne_of_lt r)
  have nd' : l'.Nodup := h'.imp (fun r => Nat.ne_of_lt r)
  exact List.Perm.eq_of_pairwise (le := fun a b => a < b) (fun a b _ _ r1 r2 => by omega) h h' ((List.perm_ext_iff_of_nodup nd nd').mpr he)
theorem range_asc : ∀ k a, (List.range' a k).Pairwise (fun a b => a < b)
  | 0, a => List.Pairwise.nil
  | k + 1, a => by
    rw [List.range'_succ]
    refine List.Pairwise.cons (fun x hx => ?_) (range_asc k (a + 1))
    have := (List.mem_range'_1.mp hx).1
    omega
theorem sto_none {e : Nat → Int32} {f kk : Nat} : ∀ (L : List Nat) (s : Nat), (∀ w, w ∈ L → e w ≠ e f) → sto e f kk L s = none
  | [], s, _ => rfl
  | w :: R, s, h => by
    rw [sto, if_neg (h w List.mem_cons_self)]
    exact sto_none R s (fun x hx => h x (List.mem_cons_of_mem _ hx))
theorem sto_at {e : Nat → Int32} {ep : Nat → Nat} {f kk : Nat} : ∀ (L : List Nat) (s : Nat), (∀ w, w ∈ L → (e w = e f ↔ ep w = ep f) ∧ ep f ≤ ep w) → L.Pairwise (fun a b => ep a ≤ ep b) → s ≤ kk → sto e f kk L s = match L[kk - s]? with
    | some w => if ep w = ep f then some w else none
    | none => none
  | [], s, _, _, _ => by rw [sto]; rfl
  | w :: R, s, h, hp, hs => by
    obtain ⟨h1, h2⟩ := h w List.mem_cons_self
    obtain ⟨p1, p2⟩ := List.pairwise_cons.mp hp
    rw [sto]
    by_cases c : ep w = ep f
    · rw [if_pos (h1.mpr c)]
      by_cases hk : s = kk
      · subst hk
        rw [if_pos rfl, Nat.sub_self]
        show some w = if ep w = ep f then some w else none
        rw [if_pos c]
      · rw [if_neg hk, sto_at R (s + 1) (fun x hx => h x (List.mem_cons_of_mem _ hx)) p2 (by omega)]
        have e1 : kk - s = (kk - (s + 1)) + 1 := by omega
        rw [e1, List.getElem?_cons_succ]
    · rw [if_neg (fun r => c (h1.mp r))]
      have hall : ∀ x, x ∈ w :: R → ep x ≠ ep f := by
        intro x hx
        rcases List.mem_cons.mp hx with rfl | hx
        · exact c
        · have := p1 x hx
          omega
      rw [sto_none R s (fun x hx r => hall x (List.mem_cons_of_mem _ hx) ((h x (List.mem_cons_of_mem _ hx)).1.mp r))]
      cases hg : (w :: R)[kk - s]? with
      | none => rfl
      | some x =>
        show none = if ep x = ep f then some x else none
        rw [if_neg (hall x (List.mem_of_getElem? hg))]
theorem wP_0 {n : Nat} {own blk ep ft : Nat → Nat} {sc : HH} {lk gr : Int32} {mp un : Nat → Nat → Bool} {q : Nat → List MSG} {wt : Nat → List Nat} {wx : Nat → Bool} {lg : Nat → List Nat} {us : Nat → Nat → Nat} {pv : Nat → Nat} {v m : HH} (hR : Rel n own blk ep ft sc lk gr mp un q wt wx lg us pv (v) (m)) (iT : IT n own blk ep ft) (iW : IW n own (wt 0) (wt 1) wx) {w : Nat} (h1 : 1 ≤ w) (h2 : w ≤ n) : wP 0 m w = true ↔ (own w = 1 ∧ w ∈ wt 0) := by
  obtain ⟨hL, hT, hX, hS0, hM0, hD0, hR0, hA0, hW0, hG0, hU0, hE0, hS1, hM1, hD1, hR1, hA1, hW1, hG1, hU1, hE1⟩ := hR
  have hn := iT.1
  have hx := hX w h1 (by omega)
  obtain ⟨-, f1, -⟩ := hT.2.2.2.2 w h1 h2
  have o1 := (iT.2 w h1 h2).1
  have k1 : nI (own w) = nI (1 - 0) ↔ own w = 1 := nI_eq (by omega) (by omega)
  unfold wP
  rw [hx, f1, Bool.and_eq_true, decide_eq_true_iff, k1, Bool.not_eq_true', decide_eq_false_iff_not, bi_0, Bool.not_eq_false, iW w h1 (by omega)]
  constructor
  · rintro ⟨⟨_, r⟩, ho⟩
    refine ⟨ho, ?_⟩
    rcases r with r | r
    · exact r.2
    · omega
  · rintro ⟨ho, r⟩
    exact ⟨⟨h2, Or.inl ⟨ho, r⟩⟩, ho⟩
theorem wL_0 {n : Nat} {own blk ep ft : Nat → Nat} {sc : HH} {lk gr : Int32} {mp un : Nat → Nat → Bool} {q : Nat → List MSG} {wt : Nat → List Nat} {wx : Nat → Bool} {lg : Nat → List Nat} {us : Nat → Nat → Nat} {pv : Nat → Nat} {v m : HH} (hR : Rel n own blk ep ft sc lk gr mp un q wt wx lg us pv (v) (m)) (iT : IT n own blk ep ft) (iW : IW n own (wt 0) (wt 1) wx) (hasc : (wt 0).Pairwise (fun a b => a < b)) (hin : ∀ w, w ∈ wt 0 → (1 ≤ w ∧ w ≤ n) ∧ own w = 1) : (List.range' 1 n).filter (wP 0 m) = wt 0 := by
  refine asc_ext (List.Pairwise.filter _ (range_asc n 1)) hasc (fun w => ?_)
  rw [List.mem_filter, List.mem_range'_1]
  constructor
  · rintro ⟨⟨g1, g2⟩, g3⟩
    exact ((wP_0 hR iT iW g1 (by omega)).mp g3).2
  · intro hw
    obtain ⟨⟨g1, g2⟩, g3⟩ := hin w hw
    exact ⟨⟨g1, by omega⟩, (wP_0 hR iT iW g1 g2).mpr ⟨g3, hw⟩⟩
theorem wP_1 {n : Nat} {own blk ep ft : Nat → Nat} {sc : HH} {lk gr : Int32} {mp un : Nat → Nat → Bool} {q : Nat → List MSG} {wt : Nat → List Nat} {wx : Nat → Bool} {lg : Nat → List Nat} {us : Nat → Nat → Nat} {pv : Nat → Nat} {v m : HH} (hR : Rel n own blk ep ft sc lk gr mp un q wt wx lg us pv (v) (m)) (iT : IT n own blk ep ft) (iW : IW n own (wt 0) (wt 1) wx) {w : Nat} (h1 : 1 ≤ w) (h2 : w ≤ n) : wP 1 m w = true ↔ (own w = 0 ∧ w ∈ wt 1) := by
  obtain ⟨hL, hT, hX, hS0, hM0, hD0, hR0, hA0, hW0, hG0, hU0, hE0, hS1, hM1, hD1, hR1, hA1, hW1, hG1, hU1, hE1⟩ := hR
  have hn := iT.1
  have hx := hX w h1 (by omega)
  obtain ⟨-, f1, -⟩ := hT.2.2.2.2 w h1 h2
  have o1 := (iT.2 w h1 h2).1
  have k1 : nI (own w) = nI (1 - 1) ↔ own w = 0 := nI_eq (by omega) (by omega)
  unfold wP
  rw [hx, f1, Bool.and_eq_true, decide_eq_true_iff, k1, Bool.not_eq_true', decide_eq_false_iff_not, bi_0, Bool.not_eq_false, iW w h1 (by omega)]
  constructor
  · rintro ⟨⟨_, r⟩, ho⟩
    refine ⟨ho, ?_⟩
    rcases r with r | r
    · omega
    · exact r.2
  · rintro ⟨ho, r⟩
    exact ⟨⟨h2, Or.inr ⟨ho, r⟩⟩, ho⟩
theorem wL_1 {n : Nat} {own blk ep ft : Nat → Nat} {sc : HH} {lk gr : Int32} {mp un : Nat → Nat → Bool} {q : Nat → List MSG} {wt : Nat → List Nat} {wx : Nat → Bool} {lg : Nat → List Nat} {us : Nat → Nat → Nat} {pv : Nat → Nat} {v m : HH} (hR : Rel n own blk ep ft sc lk gr mp un q wt wx lg us pv (v) (m)) (iT : IT n own blk ep ft) (iW : IW n own (wt 0) (wt 1) wx) (hasc : (wt 1).Pairwise (fun a b => a < b)) (hin : ∀ w, w ∈ wt 1 → (1 ≤ w ∧ w ≤ n) ∧ own w = 0) : (List.range' 1 n).filter (wP 1 m) = wt 1 := by
  refine asc_ext (List.Pairwise.filter _ (range_asc n 1)) hasc (fun w => ?_)
  rw [List.mem_filter, List.mem_range'_1]
  constructor
  · rintro ⟨⟨g1, g2⟩, g3⟩
    exact ((wP_1 hR iT iW g1 (by omega)).mp g3).2
  · intro hw
    obtain ⟨⟨g1, g2⟩, g3⟩ := hin w hw
    exact ⟨⟨g1, by omega⟩, (wP_1 hR iT iW g1 g2).mpr ⟨g3, hw⟩⟩
theorem PL_w {qo qb : List MSG} {wo : List Nat} {w : Nat} (h : w ∈ wo) : (0, w) ∈ PL qo wo qb := List.mem_append_right _ (List.mem_append_left _ (List.mem_map.mpr ⟨w, h, rfl⟩))
theorem wmp_len {n : Nat} {own blk ft : Nat → Nat} {b : Nat} {src : Int32} {mpb unb : Nat → Bool} {qo qb : List MSG} {wo : List Nat} (h : IN n own blk ft b src mpb unb (PL qo wo qb)) : (fwd qb).length ≤ 12 ∧ (bck qo).length ≤ 12 := by
  have := h.len.1
  unfold PL at this
  rw [List.length_append, List.length_append] at this
  omega
theorem IN.congrU {n : Nat} {own blk ft : Nat → Nat} {b : Nat} {src : Int32} {mpb mpb' unb unb' : Nat → Bool} {L : List (Nat × Nat)} (h : IN n own blk ft b src mpb unb L) (hu : ∀ j, j < 32 → unb' j = unb j) (hm : ∀ j, j < 32 → mpb' j = mpb j) : IN n own blk ft b src mpb' unb' L := by
  obtain ⟨h1, h2, h3, h4, h5, h6, h7, h8⟩ := h
  exact ⟨h1, h2, h3, fun j hj => ⟨(h4 j hj).1, (hm j (h4 j hj).1).trans (h4 j hj).2.1, (h4 j hj).2.2⟩, h5, h6, fun j hj => by rw [hu j hj]; exact h7 j hj, h8⟩
theorem IQ.tail {a : MSG} {l : List MSG} {s0 s1 : Int32} (h : IQ (a :: l) s0 s1) : IQ l s0 s1 := by
  obtain ⟨h1, h2, h3⟩ := h
  refine ⟨fun x hx => h1 x (List.mem_cons_of_mem _ hx), fun x hx => h2 x (List.mem_cons_of_mem _ hx), ?_⟩
  rw [List.filter_cons] at h3
  split at h3
  · rw [List.length_cons] at h3
    omega
  · exact h3
theorem IQ.snoc {a : MSG} {l : List MSG} {s0 s1 : Int32} (h : IQ l s0 s1) (h1 : 1 ≤ a.1) (h5 : a.1 < 5) : IQ (l ++ [a]) s0 s1 := by
  obtain ⟨u1, u2', u3⟩ := h
  refine ⟨fun x hx => ?_, fun x hx h => ?_, ?_⟩
  · rcases List.mem_append.mp hx with hx | hx
    · exact u1 x hx
    · rw [List.mem_singleton.mp hx]
      omega
  · rcases List.mem_append.mp hx with hx | hx
    · exact u2' x hx h
    · rw [List.mem_singleton.mp hx] at h
      omega
  · have e : (List.filter (fun x : MSG => x.1 == 5) [a]) = [] := by
      have : ¬ a.1 = 5 := by omega
      simp [this]
    rw [List.filter_append, e, List.append_nil]
    exact u3
theorem qroom {l : List MSG} {s0 s1 : Int32} (h : IQ l s0 s1) (h1 : (fwd l).length + (bck l).length ≤ 23) : l.length < 25 := by
  have := qlen h.1
  have := h.2.2
  omega
theorem IN.both {n : Nat} {own blk ft : Nat → Nat} {b : Nat} {src : Int32} {mpb unb : Nat → Bool} {qo qb : List MSG} {wo : List Nat} (h : IN n own blk ft b src mpb unb (PL qo wo qb)) : (bck qo).length + wo.length + (fwd qb).length ≤ 12 := by
  have := h.len.1
  unfold PL wmp at this
  rw [List.length_append, List.length_append, List.length_map] at this
  omega
theorem at_head {e : Nat → Int32} {ep : Nat → Nat} {kk w0 : Nat} {R : List Nat} (h : ∀ w, w ∈ w0 :: R → (e w = e w0 ↔ ep w = ep w0) ∧ ep w0 ≤ ep w) (hp : (w0 :: R).Pairwise (fun a b => ep a ≤ ep b)) : sto0 e kk (w0 :: R) = match (w0 :: R)[kk]? with
    | some w => if ep w = ep w0 then some w else none
    | none => none := by
  rw [sto0, sto_at (w0 :: R) 0 h hp (Nat.zero_le _), Nat.sub_zero]
theorem mem_eraseN {l : List Nat} {k w x : Nat} (nd : l.Pairwise (fun a b => a < b)) (hk : l[k]? = some w) : x ∈ l.eraseIdx k ↔ x ∈ l ∧ x ≠ w := by
  induction l generalizing k with
  | nil => cases hk
  | cons a l ih =>
    obtain ⟨p1, p2⟩ := List.pairwise_cons.mp nd
    cases k with
    | zero =>
      have e : a = w := by simpa using hk
      subst e
      rw [List.eraseIdx_cons_zero, List.mem_cons]
      constructor
      · intro hx
        have := p1 x hx
        exact ⟨Or.inr hx, by omega⟩
      · rintro ⟨hx | hx, hn⟩
        · exact absurd hx hn
        · exact hx
    | succ k =>
      have hk' : l[k]? = some w := by simpa using hk
      have hw : w ∈ l := List.mem_of_getElem? hk'
      have := p1 w hw
      rw [List.eraseIdx_cons_succ, List.mem_cons, List.mem_cons, ih p2 hk']
      constructor
      · rintro (hx | ⟨hx, hn⟩)
        · exact ⟨Or.inl hx, by omega⟩
        · exact ⟨Or.inr hx, hn⟩
      · rintro ⟨hx | hx, hn⟩
        · exact Or.inl hx
        · exact Or.inr ⟨hx, hn⟩
theorem S_store (fz : Nat) (hz : 400 ≤ fz) {t : Nat} (ht : t ≤ 600) {v m : HH} (hJ : J2 t v m) (x : Int32) (y : Int32) : P_V_store fz x y v ∧ P_M_store fz x y m ∧ RS t (B_V_store fz x y v) (B_M_store fz x y m) := by
  rcases ndc x with ⟨h0, h1⟩ | rfl | rfl
  · have eV : B_V_store fz x y v = (0, v) := by simp only [B_V_store, vN_n fz v h0 h1, eq_self, one0, if_true, if_false, not_true_eq_false, not_false_eq_true, true_implies, false_implies, implies_true, and_true, true_and]
    have eM : B_M_store fz x y m = (0, m) := by simp only [B_M_store, mN_n fz m h0 h1, eq_self, one0, if_true, if_false, not_true_eq_false, not_false_eq_true, true_implies, false_implies, implies_true, and_true, true_and]
    refine ⟨by simp only [P_V_store, pT_isNode, vN_n fz v h0 h1, eq_self, one0, if_true, if_false, not_true_eq_false, not_false_eq_true, true_implies, false_implies, implies_true, and_true, true_and], by simp only [P_M_store, pT_isNodeM, mN_n fz m h0 h1, eq_self, one0, if_true, if_false, not_true_eq_false, not_false_eq_true, true_implies, false_implies, implies_true, and_true, true_and], ?_⟩
    rw [eV, eM]
    exact RS.same hJ _
  · have hJ0 := hJ
    obtain ⟨n, own, blk, ep, ft, sc, lk, gr, mp, un, q, wt, wx, lg, us, pv, hR, hI⟩ := hJ
    have hR' := hR
    obtain ⟨hL, hT, hX, hS0, hM0, hD0, hR0, hA0, hW0, hG0, hU0, hE0, hS1, hM1, hD1, hR1, hA1, hW1, hG1, hU1, hE1⟩ := hR'
    have hI' := hI
    obtain ⟨iT, iG, iN0, iN1, iQ0, iQ1, iR0, iR1, iW, iC, iK, iE⟩ := hI'
    obtain ⟨s0a, s1a, s2a, s3a, s4a, s5a, s6a, s7a, s8a, s9a, s10a, s11a, s12a, s13a, s14a, s15a, s16a⟩ := hS0
    obtain ⟨s0b, s1b, s2b, s3b, s4b, s5b, s6b, s7b, s8b, s9b, s10b, s11b, s12b, s13b, s14b, s15b, s16b⟩ := hS1
    obtain ⟨l1, l2, l3, l4⟩ := hL
    have hn := iT.1
    have hin : ∀ w, w ∈ wt 0 → (1 ≤ w ∧ w ≤ n) ∧ own w = 1 ∧ ft w = 1 := fun w hw => (iN1.2.2.1 w).mp (PL_w hw)
    have hasc : (wt 0).Pairwise (fun a b => a < b) := (List.pairwise_append.mp iR1).1
    have hfl := wL_0 hR iT iW hasc (fun w hw => ⟨(hin w hw).1, (hin w hw).2.1⟩)
    obtain ⟨k1, k2, k3⟩ := hW0
    by_cases c0 : y < 0
    · have c0' : ¬ 0 ≤ y := Int32.not_le.mpr c0
      have eV : B_V_store fz (nI 0) y v = (0, v) := by simp only [B_V_store, vN_0, mN_0, nO_0, pO_0, ixb_0, vpb_0, om_0, ixb_1, vpb_1, c0, c0', eq_self, one0, if_true, if_false, not_true_eq_false, not_false_eq_true, true_implies, false_implies, implies_true, and_true, true_and]
      have eM : B_M_store fz (nI 0) y m = (0, m) := by simp only [B_M_store, vN_0, mN_0, nO_0, pO_0, ixb_0, vpb_0, om_0, ixb_1, vpb_1, c0, c0', eq_self, one0, if_true, if_false, not_true_eq_false, not_false_eq_true, true_implies, false_implies, implies_true, and_true, true_and]
      refine ⟨by simp only [P_V_store, pT_isNode, pT_nodeOf, pT_peerOf, vN_0, mN_0, nO_0, pO_0, ixb_0, vpb_0, om_0, ixb_1, vpb_1, c0, c0', eq_self, one0, if_true, if_false, not_true_eq_false, not_false_eq_true, true_implies, false_implies, implies_true, and_true, true_and], by simp only [P_M_store, pT_isNodeM, vN_0, mN_0, nO_0, pO_0, ixb_0, vpb_0, om_0, ixb_1, vpb_1, c0, c0', eq_self, one0, if_true, if_false, not_true_eq_false, not_false_eq_true, true_implies, false_implies, implies_true, and_true, true_and], ?_⟩
      rw [eV, eM]
      exact RS.same hJ0 _
    · have c0' : 0 ≤ y := Int32.not_lt.mp c0
      obtain ⟨kk, hkk, rfl⟩ := nI_of c0
      have hroom : ∀ w, w ∈ wt 0 → (q 0).length < 25 := by
        intro w hw
        have h1 := iN1.both
        have h2 := iN0.both
        have h3 := List.length_pos_of_mem hw
        exact qroom iQ0 (by omega)
      have hP : ∀ w, 1 ≤ w → w ≤ n → wP 0 m w = true → P_M_store_90 fz (nI 0) (nI w) (u2 m 33 w 0) := by
        intro w h1 h2 hw
        have hwt := ((wP_0 hR iT iW h1 h2).mp hw).2
        obtain ⟨-, f1, f2, f3, f4⟩ := hT.2.2.2.2 w h1 h2
        have hb := (iT.2 w h1 h2).2.1
        have hxw : ix (nI w) = w := nI_clamp (by omega)
        have hvw : vp_in (nI w) 301 := vp_in_nI (by omega) (by decide)
        have f2' : (u2 m 33 w 0) 29 w = nI (blk w) := f2
        have hv : vp_in (nI (32 * 0 + blk w)) 64 := vp_in_nI (by omega) (by decide)
        have hx : ix (nI (32 * 0 + blk w)) = 32 * 0 + blk w := nI_clamp (by omega)
        have hs := cv_msend fz (b := 0) (by decide) 2 (nI w) 0 (u2 (u2 m 33 w 0) 34 (32 * 0 + blk w) ((u2 m 33 w 0) 30 w)) (hroom w hwt) hA0.1
        simp only [P_M_store_90, P_M_store_114, hxw, hvw, f2', x32, hx, hv, hs.1, eq_self, one0, if_true, if_false, not_true_eq_false, not_false_eq_true, true_implies, false_implies, implies_true, and_true, true_and]
      have cm := cv_store fz hz (b := 0) (by decide) hn hkk m hT.2.1 hP
      rw [hfl] at cm
      have k2' : v 9 1 = nI (wt 0).length := k2
      have k2'' : v (1 + 8) 1 = nI (wt 0).length := k2
      rcases Nat.lt_or_ge kk (wt 0).length with hlt | hge
      · have glt : nI kk < nI (wt 0).length := nI_lt hlt (by omega)
        have gge : ¬ nI (wt 0).length ≤ nI kk := nI_ge hlt (by omega)
        obtain ⟨w, hw⟩ : ∃ w, (wt 0)[kk]? = some w := ⟨_, List.getElem?_eq_getElem hlt⟩
        cases hwt : wt 0 with
        | nil => rw [hwt] at hlt; cases hlt
        | cons w0 Rr =>
        have hw0 : (wt 0)[0]? = some w0 := by rw [hwt]; rfl
        have m0 : w0 ∈ wt 0 := List.mem_of_getElem? hw0
        have mw : w ∈ wt 0 := List.mem_of_getElem? hw
        obtain ⟨⟨a1, a2⟩, a3, a4⟩ := hin w mw
        obtain ⟨⟨z1, z2⟩, z3, z4⟩ := hin w0 m0
        obtain ⟨⟨e1, e2, e3, e4, e5⟩, f1, f2, f3, f4⟩ := hT.2.2.2.2 w a1 a2
        obtain ⟨⟨y1, y2, y3, y4, y5⟩, x1, x2, x3, x4⟩ := hT.2.2.2.2 w0 z1 z2
        obtain ⟨o1, o2, o3, o4⟩ := iT.2 w a1 a2
        have o3' := (iT.2 w0 z1 z2).2.2.1
        have hkx : ix (nI kk) = kk := nI_clamp hkk
        have hkv : vp_in (nI kk) 8 := vp_in_nI (by omega) (by decide)
        have h0x : ix (0 : Int32) = 0 := by decide
        have h0v : vp_in (0 : Int32) 8 := by rw [li0]; exact vp_in_nI (by decide) (by decide)
        have hxw : ix (nI w) = w := nI_clamp (by omega)
        have hvw : vp_in (nI w) 301 := vp_in_nI (by omega) (by decide)
        have hxw0 : ix (nI w0) = w0 := nI_clamp (by omega)
        have hvw0 : vp_in (nI w0) 301 := vp_in_nI (by omega) (by decide)
        have r9 : v (1 + 9) kk = nI w := k3 kk w hw
        have r90 : v (1 + 9) 0 = nI w0 := k3 0 w0 hw0
        have g00 : ¬ (0 : Int32) < 0 := by decide
        have gl0 : ¬ nI (wt 0).length ≤ 0 := nI_nle (by omega) (by omega)
        have nA : B_L_numberAt fz 1 (nI kk) v = nI w := by simp only [B_L_numberAt, c0, k2'', gge, hkx, r9, eq_self, one0, if_true, if_false, not_true_eq_false, not_false_eq_true, true_implies, false_implies, implies_true, and_true, true_and]
        have nB : B_L_numberAt fz 1 0 v = nI w0 := by simp only [B_L_numberAt, g00, k2'', gl0, h0x, r90, eq_self, one0, if_true, if_false, not_true_eq_false, not_false_eq_true, true_implies, false_implies, implies_true, and_true, true_and]
        have pA : P_L_numberAt fz 1 (nI kk) v := by simp only [P_L_numberAt, c0, k2'', gge, hkv, eq_self, one0, if_true, if_false, not_true_eq_false, not_false_eq_true, true_implies, false_implies, implies_true, and_true, true_and]
        have pB : P_L_numberAt fz 1 0 v := by simp only [P_L_numberAt, g00, k2'', gl0, h0v, eq_self, one0, if_true, if_false, not_true_eq_false, not_false_eq_true, true_implies, false_implies, implies_true, and_true, true_and]
        have hE : ∀ x, x ∈ wt 0 → (m 31 x = m 31 w0 ↔ ep x = ep w0) ∧ ep w0 ≤ ep x := by
          intro x hx
          obtain ⟨⟨b1, b2⟩, b3, b4⟩ := hin x hx
          obtain ⟨-, -, -, t3, -⟩ := hT.2.2.2.2 x b1 b2
          have t5 := (iT.2 x b1 b2).2.2.1
          refine ⟨by rw [t3, x3]; exact nI_eq (by omega) (by omega), ?_⟩
          rw [hwt] at hx
          rcases List.mem_cons.mp hx with rfl | hx
          · exact Nat.le_refl _
          · rw [hwt] at hasc
            exact iE.1 w0 x z1 ((List.pairwise_cons.mp hasc).1 x hx) b2 (by rw [z3, b3])
        have hpw : (wt 0).Pairwise (fun a b => ep a ≤ ep b) := List.Pairwise.imp_of_mem (fun {a b} ha hb hab => iE.1 a b (hin a ha).1.1 hab (hin b hb).1.2 (by rw [(hin a ha).2.1, (hin b hb).2.1])) hasc
        have hst : sto0 (m 31) kk (wt 0) = if ep w = ep w0 then some w else none := by
          have h9 := hE
          have h8 := hpw
          have h7 := hw
          rw [hwt] at h9 h8 h7 ⊢
          rw [at_head h9 h8, h7]
        rw [hst] at cm
        by_cases ce : ep w = ep w0
        · rw [if_pos ce] at cm
          have eq25 : nI (ep w) = nI (ep w0) := congrArg nI ce
          obtain ⟨p1, r1⟩ := r_wrem_0 fz hz hR hw (x := nI kk) rfl
          have r2 := r_disk_0 (r_wx r1 a1 false (x := 0) rfl) o2 (m 30 w)
          have hlr := hroom w mw
          obtain ⟨p2, p3, r3⟩ := r_send_0 fz r2 hlr (2, w, 0) (k := 2) (s := nI w) (x := 0) (k2 := 2) (s2 := nI w) (x2 := 0) li2 rfl rfl li2 rfl rfl
          have t23 : (B_L_remove fz 1 (nI kk) v) 23 w = nI (blk w) ∧ (B_L_remove fz 1 (nI kk) v) 24 w = m 30 w := by
            obtain ⟨kL, kT, kX, kS0, kM0, kD0, kR0, kA0, kW0, kG0, kU0, kE0, kS1, kM1, kD1, kR1, kA1, kW1, kG1, kU1, kE1⟩ := r1
            obtain ⟨⟨q1, q2, q3, q4, q5⟩, -⟩ := kT.2.2.2.2 w a1 a2
            exact ⟨q2, q3⟩
          have hvb : vp_in (nI (blk w)) 32 := vp_in_nI o2 (by decide)
          have hxb : ix (nI (blk w)) = blk w := nI_clamp (by omega)
          have f2' : (u2 m 33 w 0) 29 w = nI (blk w) := f2
          have f30 : (u2 m 33 w 0) 30 w = m 30 w := rfl
          have hx64 : ix (nI (32 * 0 + blk w)) = 32 * 0 + blk w := nI_clamp (by omega)
          have eV : B_V_store fz (nI 0) (nI kk) v = (nI w, B_O_send fz 1 2 (nI w) 0 (u2 (B_L_remove fz 1 (nI kk) v) 2 (blk w) (m 30 w))) := by
            simp only [B_V_store, B_V_store_79, B_V_store_104, vN_0, mN_0, nO_0, pO_0, ixb_0, vpb_0, om_0, ixb_1, vpb_1, c0, k2', k2'', glt, nA, nB, hxw, hxw0, e4, y4, eq25, t23.1, t23.2, hxb, eq_self, one0, if_true, if_false, not_true_eq_false, not_false_eq_true, true_implies, false_implies, implies_true, and_true, true_and]
          have eM : B_M_store fz (nI 0) (nI kk) m = (nI w, B_M_send fz (nI 0) 2 (nI w) 0 (u2 (u2 m 33 w 0) 34 (32 * 0 + blk w) (m 30 w))) := by
            simp only [B_M_store, vN_0, mN_0, nO_0, pO_0, ixb_0, vpb_0, om_0, ixb_1, vpb_1, c0', cm, B_M_store_90, B_M_store_114, hxw, f2', f30, x32, hx64, eq_self, one0, if_true, if_false, not_true_eq_false, not_false_eq_true, true_implies, false_implies, implies_true, and_true, true_and]
          refine ⟨by simp only [P_V_store, P_V_store_79, P_V_store_104, pT_isNode, pT_nodeOf, vN_0, mN_0, nO_0, pO_0, ixb_0, vpb_0, om_0, ixb_1, vpb_1, c0, k2', k2'', glt, nA, nB, pA, pB, hxw, hxw0, hvw, hvw0, e4, y4, eq25, p1, t23.1, t23.2, hvb, hxb, p2, eq_self, one0, if_true, if_false, not_true_eq_false, not_false_eq_true, true_implies, false_implies, implies_true, and_true, true_and], by simp only [P_M_store, pT_isNodeM, vN_0, mN_0, nO_0, pO_0, ixb_0, vpb_0, om_0, ixb_1, vpb_1, c0', cm, eq_self, one0, if_true, if_false, not_true_eq_false, not_false_eq_true, true_implies, false_implies, implies_true, and_true, true_and], ?_⟩
          rw [eV, eM]
          have hJm := hI.mono (show t ≤ t + 1 by omega)
          obtain ⟨jT, jG, jN0, jN1, jQ0, jQ1, jR0, jR1, jW, jC, jK, jE⟩ := hJm
          have hb2 : bck (q 0 ++ [(2, w, 0)]) = bck (q 0) ++ [(0, w)] := bck_app _ _
          have hf2 : fwd (q 0 ++ [(2, w, 0)]) = fwd (q 0) := (fwd_app _ _).trans (List.append_nil _)
          have hd2 : dat (q 0 ++ [(2, w, 0)]) = dat (q 0) := (dat_app _ _).trans (List.append_nil _)
          have nO : IN n own blk ft 1 (sc 12 1) (mp 1) (un 1) (PL (q 0 ++ [(2, w, 0)]) ((wt 0).eraseIdx kk) (q 1)) := by
            have hp := jN1
            unfold PL at hp ⊢
            rw [hb2]
            exact hp.perm (store_perm hw) (store_order hw hp.2.2.2.2.1)
          have nB' : IN n own blk ft 0 (sc 12 0) (mp 0) (un 0) (PL (q 1) (wt 1) (q 0 ++ [(2, w, 0)])) := by
            have hp := jN0
            unfold PL at hp ⊢
            rw [hf2]
            exact hp
          have nQ : IQ (q 0 ++ [(2, w, 0)]) (sc 12 0) (sc 12 1) := by
            exact jQ0.snoc (show 1 ≤ 2 by decide) (show 2 < 5 by decide)
          have nRo : IR ((wt 0).eraseIdx kk) (q 1) := List.Pairwise.sublist ((List.eraseIdx_sublist _ _).append (List.Sublist.refl _)) jR1
          have nRb : IR (wt 1) (q 0 ++ [(2, w, 0)]) := by
            unfold IR
            rw [hd2]
            exact jR0
          have nW : IW n own ((wt 0).eraseIdx kk) (wt 1) (ug wx w false) := by
            intro x g1 g2
            unfold ug
            by_cases ex : x = w
            · subst ex
              rw [if_pos rfl]
              refine ⟨fun r => (by cases r), fun r => ?_⟩
              rcases r.2 with r | r
              · exact absurd rfl ((mem_eraseN hasc hw).mp r.2).2
              · omega
            · rw [if_neg ex, jW x g1 g2, mem_eraseN hasc hw]
              simp only [ex, ne_eq, not_false_eq_true, and_true]
          have nK : IK lk (q 0 ++ [(2, w, 0)]) (q 1) ((wt 0).eraseIdx kk) (wt 1) (sc 12 0) (sc 12 1) := by
            intro hl
            have := (jK hl).2.2.1
            rw [this] at mw
            cases mw
          exact ⟨rfl, n, own, blk, ep, ft, sc, lk, gr, mp, un, ug q 0 (q 0 ++ [(2, w, 0)]), ug wt 0 ((wt 0).eraseIdx kk), ug wx w false, lg, us, pv, r3, jT, jG, nB', nO, nQ, jQ1, nRb, nRo, nW, jC, nK, jE⟩
        · rw [if_neg ce] at cm
          have ne25 : ¬ nI (ep w) = nI (ep w0) := fun r => ce ((nI_eq (by omega) (by omega)).mp r)
          have eV : B_V_store fz (nI 0) (nI kk) v = (0, v) := by simp only [B_V_store, vN_0, mN_0, nO_0, pO_0, ixb_0, vpb_0, om_0, ixb_1, vpb_1, c0, c0', k2', k2'', glt, nA, nB, hxw, hxw0, e4, y4, ne25, cm, eq_self, one0, if_true, if_false, not_true_eq_false, not_false_eq_true, true_implies, false_implies, implies_true, and_true, true_and]
          have eM : B_M_store fz (nI 0) (nI kk) m = (0, m) := by simp only [B_M_store, vN_0, mN_0, nO_0, pO_0, ixb_0, vpb_0, om_0, ixb_1, vpb_1, c0, c0', k2', k2'', glt, nA, nB, hxw, hxw0, e4, y4, ne25, cm, eq_self, one0, if_true, if_false, not_true_eq_false, not_false_eq_true, true_implies, false_implies, implies_true, and_true, true_and]
          refine ⟨by simp only [P_V_store, pT_isNode, pT_nodeOf, pT_peerOf, vN_0, mN_0, nO_0, pO_0, ixb_0, vpb_0, om_0, ixb_1, vpb_1, c0, c0', k2', k2'', glt, nA, nB, hxw, hxw0, e4, y4, ne25, cm, pA, pB, hvw, hvw0, eq_self, one0, if_true, if_false, not_true_eq_false, not_false_eq_true, true_implies, false_implies, implies_true, and_true, true_and], by simp only [P_M_store, pT_isNodeM, vN_0, mN_0, nO_0, pO_0, ixb_0, vpb_0, om_0, ixb_1, vpb_1, c0, c0', k2', k2'', glt, nA, nB, hxw, hxw0, e4, y4, ne25, cm, eq_self, one0, if_true, if_false, not_true_eq_false, not_false_eq_true, true_implies, false_implies, implies_true, and_true, true_and], ?_⟩
          rw [eV, eM]
          exact RS.same hJ0 _
      · have glt : ¬ nI kk < nI (wt 0).length := nI_nlt hge (by omega)
        have hno : (wt 0)[kk]? = none := List.getElem?_eq_none hge
        have hst : sto0 (m 31) kk (wt 0) = none := by
          cases hwt : wt 0 with
          | nil => rfl
          | cons w0 Rr =>
            have m0 : w0 ∈ wt 0 := by rw [hwt]; exact List.mem_cons_self
            obtain ⟨⟨z1, z2⟩, z3, z4⟩ := hin w0 m0
            obtain ⟨-, x1, x2, x3, x4⟩ := hT.2.2.2.2 w0 z1 z2
            have o3' := (iT.2 w0 z1 z2).2.2.1
            have hE : ∀ x, x ∈ wt 0 → (m 31 x = m 31 w0 ↔ ep x = ep w0) ∧ ep w0 ≤ ep x := by
              intro x hx
              obtain ⟨⟨b1, b2⟩, b3, b4⟩ := hin x hx
              obtain ⟨-, -, -, t3, -⟩ := hT.2.2.2.2 x b1 b2
              have t5 := (iT.2 x b1 b2).2.2.1
              refine ⟨by rw [t3, x3]; exact nI_eq (by omega) (by omega), ?_⟩
              rw [hwt] at hx
              rcases List.mem_cons.mp hx with rfl | hx
              · exact Nat.le_refl _
              · rw [hwt] at hasc
                exact iE.1 w0 x z1 ((List.pairwise_cons.mp hasc).1 x hx) b2 (by rw [z3, b3])
            have hpw : (wt 0).Pairwise (fun a b => ep a ≤ ep b) := List.Pairwise.imp_of_mem (fun {a b} ha hb hab => iE.1 a b (hin a ha).1.1 hab (hin b hb).1.2 (by rw [(hin a ha).2.1, (hin b hb).2.1])) hasc
            rw [hwt] at hE hpw hno
            rw [at_head hE hpw, hno]
        rw [hst] at cm
        have eV : B_V_store fz (nI 0) (nI kk) v = (0, v) := by simp only [B_V_store, vN_0, mN_0, nO_0, pO_0, ixb_0, vpb_0, om_0, ixb_1, vpb_1, c0, c0', k2', k2'', glt, cm, eq_self, one0, if_true, if_false, not_true_eq_false, not_false_eq_true, true_implies, false_implies, implies_true, and_true, true_and]
        have eM : B_M_store fz (nI 0) (nI kk) m = (0, m) := by simp only [B_M_store, vN_0, mN_0, nO_0, pO_0, ixb_0, vpb_0, om_0, ixb_1, vpb_1, c0, c0', k2', k2'', glt, cm, eq_self, one0, if_true, if_false, not_true_eq_false, not_false_eq_true, true_implies, false_implies, implies_true, and_true, true_and]
        refine ⟨by simp only [P_V_store, pT_isNode, pT_nodeOf, pT_peerOf, vN_0, mN_0, nO_0, pO_0, ixb_0, vpb_0, om_0, ixb_1, vpb_1, c0, c0', k2', k2'', glt, cm, eq_self, one0, if_true, if_false, not_true_eq_false, not_false_eq_true, true_implies, false_implies, implies_true, and_true, true_and], by simp only [P_M_store, pT_isNodeM, vN_0, mN_0, nO_0, pO_0, ixb_0, vpb_0, om_0, ixb_1, vpb_1, c0, c0', k2', k2'', glt, cm, eq_self, one0, if_true, if_false, not_true_eq_false, not_false_eq_true, true_implies, false_implies, implies_true, and_true, true_and], ?_⟩
        rw [eV, eM]
        exact RS.same hJ0 _
  · have hJ0 := hJ
    obtain ⟨n, own, blk, ep, ft, sc, lk, gr, mp, un, q, wt, wx, lg, us, pv, hR, hI⟩ := hJ
    have hR' := hR
    obtain ⟨hL, hT, hX, hS0, hM0, hD0, hR0, hA0, hW0, hG0, hU0, hE0, hS1, hM1, hD1, hR1, hA1, hW1, hG1, hU1, hE1⟩ := hR'
    have hI' := hI
    obtain ⟨iT, iG, iN0, iN1, iQ0, iQ1, iR0, iR1, iW, iC, iK, iE⟩ := hI'
    obtain ⟨s0a, s1a, s2a, s3a, s4a, s5a, s6a, s7a, s8a, s9a, s10a, s11a, s12a, s13a, s14a, s15a, s16a⟩ := hS0
    obtain ⟨s0b, s1b, s2b, s3b, s4b, s5b, s6b, s7b, s8b, s9b, s10b, s11b, s12b, s13b, s14b, s15b, s16b⟩ := hS1
    obtain ⟨l1, l2, l3, l4⟩ := hL
    have hn := iT.1
    have hin : ∀ w, w ∈ wt 1 → (1 ≤ w ∧ w ≤ n) ∧ own w = 0 ∧ ft w = 1 := fun w hw => (iN0.2.2.1 w).mp (PL_w hw)
    have hasc : (wt 1).Pairwise (fun a b => a < b) := (List.pairwise_append.mp iR0).1
    have hfl := wL_1 hR iT iW hasc (fun w hw => ⟨(hin w hw).1, (hin w hw).2.1⟩)
    obtain ⟨k1, k2, k3⟩ := hW1
    by_cases c0 : y < 0
    · have c0' : ¬ 0 ≤ y := Int32.not_le.mpr c0
      have eV : B_V_store fz (nI 1) y v = (0, v) := by simp only [B_V_store, vN_1, mN_1, nO_1, pO_1, ixb_1, vpb_1, om_1, ixb_0, vpb_0, c0, c0', eq_self, one0, if_true, if_false, not_true_eq_false, not_false_eq_true, true_implies, false_implies, implies_true, and_true, true_and]
      have eM : B_M_store fz (nI 1) y m = (0, m) := by simp only [B_M_store, vN_1, mN_1, nO_1, pO_1, ixb_1, vpb_1, om_1, ixb_0, vpb_0, c0, c0', eq_self, one0, if_true, if_false, not_true_eq_false, not_false_eq_true, true_implies, false_implies, implies_true, and_true, true_and]
      refine ⟨by simp only [P_V_store, pT_isNode, pT_nodeOf, pT_peerOf, vN_1, mN_1, nO_1, pO_1, ixb_1, vpb_1, om_1, ixb_0, vpb_0, c0, c0', eq_self, one0, if_true, if_false, not_true_eq_false, not_false_eq_true, true_implies, false_implies, implies_true, and_true, true_and], by simp only [P_M_store, pT_isNodeM, vN_1, mN_1, nO_1, pO_1, ixb_1, vpb_1, om_1, ixb_0, vpb_0, c0, c0', eq_self, one0, if_true, if_false, not_true_eq_false, not_false_eq_true, true_implies, false_implies, implies_true, and_true, true_and], ?_⟩
      rw [eV, eM]
      exact RS.same hJ0 _
    · have c0' : 0 ≤ y := Int32.not_lt.mp c0
      obtain ⟨kk, hkk, rfl⟩ := nI_of c0
      have hroom : ∀ w, w ∈ wt 1 → (q 1).length < 25 := by
        intro w hw
        have h1 := iN0.both
        have h2 := iN1.both
        have h3 := List.length_pos_of_mem hw
        exact qroom iQ1 (by omega)
      have hP : ∀ w, 1 ≤ w → w ≤ n → wP 1 m w = true → P_M_store_90 fz (nI 1) (nI w) (u2 m 33 w 0) := by
        intro w h1 h2 hw
        have hwt := ((wP_1 hR iT iW h1 h2).mp hw).2
        obtain ⟨-, f1, f2, f3, f4⟩ := hT.2.2.2.2 w h1 h2
        have hb := (iT.2 w h1 h2).2.1
        have hxw : ix (nI w) = w := nI_clamp (by omega)
        have hvw : vp_in (nI w) 301 := vp_in_nI (by omega) (by decide)
        have f2' : (u2 m 33 w 0) 29 w = nI (blk w) := f2
        have hv : vp_in (nI (32 * 1 + blk w)) 64 := vp_in_nI (by omega) (by decide)
        have hx : ix (nI (32 * 1 + blk w)) = 32 * 1 + blk w := nI_clamp (by omega)
        have hs := cv_msend fz (b := 1) (by decide) 2 (nI w) 0 (u2 (u2 m 33 w 0) 34 (32 * 1 + blk w) ((u2 m 33 w 0) 30 w)) (hroom w hwt) hA1.1
        simp only [P_M_store_90, P_M_store_114, hxw, hvw, f2', x32, hx, hv, hs.1, eq_self, one0, if_true, if_false, not_true_eq_false, not_false_eq_true, true_implies, false_implies, implies_true, and_true, true_and]
      have cm := cv_store fz hz (b := 1) (by decide) hn hkk m hT.2.1 hP
      rw [hfl] at cm
      have k2' : v 19 1 = nI (wt 1).length := k2
      have k2'' : v (11 + 8) 1 = nI (wt 1).length := k2
      rcases Nat.lt_or_ge kk (wt 1).length with hlt | hge
      · have glt : nI kk < nI (wt 1).length := nI_lt hlt (by omega)
        have gge : ¬ nI (wt 1).length ≤ nI kk := nI_ge hlt (by omega)
        obtain ⟨w, hw⟩ : ∃ w, (wt 1)[kk]? = some w := ⟨_, List.getElem?_eq_getElem hlt⟩
        cases hwt : wt 1 with
        | nil => rw [hwt] at hlt; cases hlt
        | cons w0 Rr =>
        have hw0 : (wt 1)[0]? = some w0 := by rw [hwt]; rfl
        have m0 : w0 ∈ wt 1 := List.mem_of_getElem? hw0
        have mw : w ∈ wt 1 := List.mem_of_getElem? hw
        obtain ⟨⟨a1, a2⟩, a3, a4⟩ := hin w mw
        obtain ⟨⟨z1, z2⟩, z3, z4⟩ := hin w0 m0
        obtain ⟨⟨e1, e2, e3, e4, e5⟩, f1, f2, f3, f4⟩ := hT.2.2.2.2 w a1 a2
        obtain ⟨⟨y1, y2, y3, y4, y5⟩, x1, x2, x3, x4⟩ := hT.2.2.2.2 w0 z1 z2
        obtain ⟨o1, o2, o3, o4⟩ := iT.2 w a1 a2
        have o3' := (iT.2 w0 z1 z2).2.2.1
        have hkx : ix (nI kk) = kk := nI_clamp hkk
        have hkv : vp_in (nI kk) 8 := vp_in_nI (by omega) (by decide)
        have h0x : ix (0 : Int32) = 0 := by decide
        have h0v : vp_in (0 : Int32) 8 := by rw [li0]; exact vp_in_nI (by decide) (by decide)
        have hxw : ix (nI w) = w := nI_clamp (by omega)
        have hvw : vp_in (nI w) 301 := vp_in_nI (by omega) (by decide)
        have hxw0 : ix (nI w0) = w0 := nI_clamp (by omega)
        have hvw0 : vp_in (nI w0) 301 := vp_in_nI (by omega) (by decide)
        have r9 : v (11 + 9) kk = nI w := k3 kk w hw
        have r90 : v (11 + 9) 0 = nI w0 := k3 0 w0 hw0
        have g00 : ¬ (0 : Int32) < 0 := by decide
        have gl0 : ¬ nI (wt 1).length ≤ 0 := nI_nle (by omega) (by omega)
        have nA : B_L_numberAt fz 11 (nI kk) v = nI w := by simp only [B_L_numberAt, c0, k2'', gge, hkx, r9, eq_self, one0, if_true, if_false, not_true_eq_false, not_false_eq_true, true_implies, false_implies, implies_true, and_true, true_and]
        have nB : B_L_numberAt fz 11 0 v = nI w0 := by simp only [B_L_numberAt, g00, k2'', gl0, h0x, r90, eq_self, one0, if_true, if_false, not_true_eq_false, not_false_eq_true, true_implies, false_implies, implies_true, and_true, true_and]
        have pA : P_L_numberAt fz 11 (nI kk) v := by simp only [P_L_numberAt, c0, k2'', gge, hkv, eq_self, one0, if_true, if_false, not_true_eq_false, not_false_eq_true, true_implies, false_implies, implies_true, and_true, true_and]
        have pB : P_L_numberAt fz 11 0 v := by simp only [P_L_numberAt, g00, k2'', gl0, h0v, eq_self, one0, if_true, if_false, not_true_eq_false, not_false_eq_true, true_implies, false_implies, implies_true, and_true, true_and]
        have hE : ∀ x, x ∈ wt 1 → (m 31 x = m 31 w0 ↔ ep x = ep w0) ∧ ep w0 ≤ ep x := by
          intro x hx
          obtain ⟨⟨b1, b2⟩, b3, b4⟩ := hin x hx
          obtain ⟨-, -, -, t3, -⟩ := hT.2.2.2.2 x b1 b2
          have t5 := (iT.2 x b1 b2).2.2.1
          refine ⟨by rw [t3, x3]; exact nI_eq (by omega) (by omega), ?_⟩
          rw [hwt] at hx
          rcases List.mem_cons.mp hx with rfl | hx
          · exact Nat.le_refl _
          · rw [hwt] at hasc
            exact iE.1 w0 x z1 ((List.pairwise_cons.mp hasc).1 x hx) b2 (by rw [z3, b3])
        have hpw : (wt 1).Pairwise (fun a b => ep a ≤ ep b) := List.Pairwise.imp_of_mem (fun {a b} ha hb hab => iE.1 a b (hin a ha).1.1 hab (hin b hb).1.2 (by rw [(hin a ha).2.1, (hin b hb).2.1])) hasc
        have hst : sto0 (m 31) kk (wt 1) = if ep w = ep w0 then some w else none := by
          have h9 := hE
          have h8 := hpw
          have h7 := hw
          rw [hwt] at h9 h8 h7 ⊢
          rw [at_head h9 h8, h7]
        rw [hst] at cm
        by_cases ce : ep w = ep w0
        · rw [if_pos ce] at cm
          have eq25 : nI (ep w) = nI (ep w0) := congrArg nI ce
          obtain ⟨p1, r1⟩ := r_wrem_1 fz hz hR hw (x := nI kk) rfl
          have r2 := r_disk_1 (r_wx r1 a1 false (x := 0) rfl) o2 (m 30 w)
          have hlr := hroom w mw
          obtain ⟨p2, p3, r3⟩ := r_send_1 fz r2 hlr (2, w, 0) (k := 2) (s := nI w) (x := 0) (k2 := 2) (s2 := nI w) (x2 := 0) li2 rfl rfl li2 rfl rfl
          have t23 : (B_L_remove fz 11 (nI kk) v) 23 w = nI (blk w) ∧ (B_L_remove fz 11 (nI kk) v) 24 w = m 30 w := by
            obtain ⟨kL, kT, kX, kS0, kM0, kD0, kR0, kA0, kW0, kG0, kU0, kE0, kS1, kM1, kD1, kR1, kA1, kW1, kG1, kU1, kE1⟩ := r1
            obtain ⟨⟨q1, q2, q3, q4, q5⟩, -⟩ := kT.2.2.2.2 w a1 a2
            exact ⟨q2, q3⟩
          have hvb : vp_in (nI (blk w)) 32 := vp_in_nI o2 (by decide)
          have hxb : ix (nI (blk w)) = blk w := nI_clamp (by omega)
          have f2' : (u2 m 33 w 0) 29 w = nI (blk w) := f2
          have f30 : (u2 m 33 w 0) 30 w = m 30 w := rfl
          have hx64 : ix (nI (32 * 1 + blk w)) = 32 * 1 + blk w := nI_clamp (by omega)
          have eV : B_V_store fz (nI 1) (nI kk) v = (nI w, B_O_send fz 11 2 (nI w) 0 (u2 (B_L_remove fz 11 (nI kk) v) 12 (blk w) (m 30 w))) := by
            simp only [B_V_store, B_V_store_79, B_V_store_104, vN_1, mN_1, nO_1, pO_1, ixb_1, vpb_1, om_1, ixb_0, vpb_0, c0, k2', k2'', glt, nA, nB, hxw, hxw0, e4, y4, eq25, t23.1, t23.2, hxb, eq_self, one0, if_true, if_false, not_true_eq_false, not_false_eq_true, true_implies, false_implies, implies_true, and_true, true_and]
          have eM : B_M_store fz (nI 1) (nI kk) m = (nI w, B_M_send fz (nI 1) 2 (nI w) 0 (u2 (u2 m 33 w 0) 34 (32 * 1 + blk w) (m 30 w))) := by
            simp only [B_M_store, vN_1, mN_1, nO_1, pO_1, ixb_1, vpb_1, om_1, ixb_0, vpb_0, c0', cm, B_M_store_90, B_M_store_114, hxw, f2', f30, x32, hx64, eq_self, one0, if_true, if_false, not_true_eq_false, not_false_eq_true, true_implies, false_implies, implies_true, and_true, true_and]
          refine ⟨by simp only [P_V_store, P_V_store_79, P_V_store_104, pT_isNode, pT_nodeOf, vN_1, mN_1, nO_1, pO_1, ixb_1, vpb_1, om_1, ixb_0, vpb_0, c0, k2', k2'', glt, nA, nB, pA, pB, hxw, hxw0, hvw, hvw0, e4, y4, eq25, p1, t23.1, t23.2, hvb, hxb, p2, eq_self, one0, if_true, if_false, not_true_eq_false, not_false_eq_true, true_implies, false_implies, implies_true, and_true, true_and], by simp only [P_M_store, pT_isNodeM, vN_1, mN_1, nO_1, pO_1, ixb_1, vpb_1, om_1, ixb_0, vpb_0, c0', cm, eq_self, one0, if_true, if_false, not_true_eq_false, not_false_eq_true, true_implies, false_implies, implies_true, and_true, true_and], ?_⟩
          rw [eV, eM]
          have hJm := hI.mono (show t ≤ t + 1 by omega)
          obtain ⟨jT, jG, jN0, jN1, jQ0, jQ1, jR0, jR1, jW, jC, jK, jE⟩ := hJm
          have hb2 : bck (q 1 ++ [(2, w, 0)]) = bck (q 1) ++ [(0, w)] := bck_app _ _
          have hf2 : fwd (q 1 ++ [(2, w, 0)]) = fwd (q 1) := (fwd_app _ _).trans (List.append_nil _)
          have hd2 : dat (q 1 ++ [(2, w, 0)]) = dat (q 1) := (dat_app _ _).trans (List.append_nil _)
          have nO : IN n own blk ft 0 (sc 12 0) (mp 0) (un 0) (PL (q 1 ++ [(2, w, 0)]) ((wt 1).eraseIdx kk) (q 0)) := by
            have hp := jN0
            unfold PL at hp ⊢
            rw [hb2]
            exact hp.perm (store_perm hw) (store_order hw hp.2.2.2.2.1)
          have nB' : IN n own blk ft 1 (sc 12 1) (mp 1) (un 1) (PL (q 0) (wt 0) (q 1 ++ [(2, w, 0)])) := by
            have hp := jN1
            unfold PL at hp ⊢
            rw [hf2]
            exact hp
          have nQ : IQ (q 1 ++ [(2, w, 0)]) (sc 12 0) (sc 12 1) := by
            exact jQ1.snoc (show 1 ≤ 2 by decide) (show 2 < 5 by decide)
          have nRo : IR ((wt 1).eraseIdx kk) (q 0) := List.Pairwise.sublist ((List.eraseIdx_sublist _ _).append (List.Sublist.refl _)) jR0
          have nRb : IR (wt 0) (q 1 ++ [(2, w, 0)]) := by
            unfold IR
            rw [hd2]
            exact jR1
          have nW : IW n own (wt 0) ((wt 1).eraseIdx kk) (ug wx w false) := by
            intro x g1 g2
            unfold ug
            by_cases ex : x = w
            · subst ex
              rw [if_pos rfl]
              refine ⟨fun r => (by cases r), fun r => ?_⟩
              rcases r.2 with r | r
              · omega
              · exact absurd rfl ((mem_eraseN hasc hw).mp r.2).2
            · rw [if_neg ex, jW x g1 g2, mem_eraseN hasc hw]
              simp only [ex, ne_eq, not_false_eq_true, and_true]
          have nK : IK lk (q 0) (q 1 ++ [(2, w, 0)]) (wt 0) ((wt 1).eraseIdx kk) (sc 12 0) (sc 12 1) := by
            intro hl
            have := (jK hl).2.2.2.1
            rw [this] at mw
            cases mw
          exact ⟨rfl, n, own, blk, ep, ft, sc, lk, gr, mp, un, ug q 1 (q 1 ++ [(2, w, 0)]), ug wt 1 ((wt 1).eraseIdx kk), ug wx w false, lg, us, pv, r3, jT, jG, nO, nB', jQ0, nQ, nRo, nRb, nW, jC, nK, jE⟩
        · rw [if_neg ce] at cm
          have ne25 : ¬ nI (ep w) = nI (ep w0) := fun r => ce ((nI_eq (by omega) (by omega)).mp r)
          have eV : B_V_store fz (nI 1) (nI kk) v = (0, v) := by simp only [B_V_store, vN_1, mN_1, nO_1, pO_1, ixb_1, vpb_1, om_1, ixb_0, vpb_0, c0, c0', k2', k2'', glt, nA, nB, hxw, hxw0, e4, y4, ne25, cm, eq_self, one0, if_true, if_false, not_true_eq_false, not_false_eq_true, true_implies, false_implies, implies_true, and_true, true_and]
          have eM : B_M_store fz (nI 1) (nI kk) m = (0, m) := by simp only [B_M_store, vN_1, mN_1, nO_1, pO_1, ixb_1, vpb_1, om_1, ixb_0, vpb_0, c0, c0', k2', k2'', glt, nA, nB, hxw, hxw0, e4, y4, ne25, cm, eq_self, one0, if_true, if_false, not_true_eq_false, not_false_eq_true, true_implies, false_implies, implies_true, and_true, true_and]
          refine ⟨by simp only [P_V_store, pT_isNode, pT_nodeOf, pT_peerOf, vN_1, mN_1, nO_1, pO_1, ixb_1, vpb_1, om_1, ixb_0, vpb_0, c0, c0', k2', k2'', glt, nA, nB, hxw, hxw0, e4, y4, ne25, cm, pA, pB, hvw, hvw0, eq_self, one0, if_true, if_false, not_true_eq_false, not_false_eq_true, true_implies, false_implies, implies_true, and_true, true_and], by simp only [P_M_store, pT_isNodeM, vN_1, mN_1, nO_1, pO_1, ixb_1, vpb_1, om_1, ixb_0, vpb_0, c0, c0', k2', k2'', glt, nA, nB, hxw, hxw0, e4, y4, ne25, cm, eq_self, one0, if_true, if_false, not_true_eq_false, not_false_eq_true, true_implies, false_implies, implies_true, and_true, true_and], ?_⟩
          rw [eV, eM]
          exact RS.same hJ0 _
      · have glt : ¬ nI kk < nI (wt 1).length := nI_nlt hge (by omega)
        have hno : (wt 1)[kk]? = none := List.getElem?_eq_none hge
        have hst : sto0 (m 31) kk (wt 1) = none := by
          cases hwt : wt 1 with
          | nil => rfl
          | cons w0 Rr =>
            have m0 : w0 ∈ wt 1 := by rw [hwt]; exact List.mem_cons_self
            obtain ⟨⟨z1, z2⟩, z3, z4⟩ := hin w0 m0
            obtain ⟨-, x1, x2, x3, x4⟩ := hT.2.2.2.2 w0 z1 z2
            have o3' := (iT.2 w0 z1 z2).2.2.1
            have hE : ∀ x, x ∈ wt 1 → (m 31 x = m 31 w0 ↔ ep x = ep w0) ∧ ep w0 ≤ ep x := by
              intro x hx
              obtain ⟨⟨b1, b2⟩, b3, b4⟩ := hin x hx
              obtain ⟨-, -, -, t3, -⟩ := hT.2.2.2.2 x b1 b2
              have t5 := (iT.2 x b1 b2).2.2.1
              refine ⟨by rw [t3, x3]; exact nI_eq (by omega) (by omega), ?_⟩
              rw [hwt] at hx
              rcases List.mem_cons.mp hx with rfl | hx
              · exact Nat.le_refl _
              · rw [hwt] at hasc
                exact iE.1 w0 x z1 ((List.pairwise_cons.mp hasc).1 x hx) b2 (by rw [z3, b3])
            have hpw : (wt 1).Pairwise (fun a b => ep a ≤ ep b) := List.Pairwise.imp_of_mem (fun {a b} ha hb hab => iE.1 a b (hin a ha).1.1 hab (hin b hb).1.2 (by rw [(hin a ha).2.1, (hin b hb).2.1])) hasc
            rw [hwt] at hE hpw hno
            rw [at_head hE hpw, hno]
        rw [hst] at cm
        have eV : B_V_store fz (nI 1) (nI kk) v = (0, v) := by simp only [B_V_store, vN_1, mN_1, nO_1, pO_1, ixb_1, vpb_1, om_1, ixb_0, vpb_0, c0, c0', k2', k2'', glt, cm, eq_self, one0, if_true, if_false, not_true_eq_false, not_false_eq_true, true_implies, false_implies, implies_true, and_true, true_and]
        have eM : B_M_store fz (nI 1) (nI kk) m = (0, m) := by simp only [B_M_store, vN_1, mN_1, nO_1, pO_1, ixb_1, vpb_1, om_1, ixb_0, vpb_0, c0, c0', k2', k2'', glt, cm, eq_self, one0, if_true, if_false, not_true_eq_false, not_false_eq_true, true_implies, false_implies, implies_true, and_true, true_and]
        refine ⟨by simp only [P_V_store, pT_isNode, pT_nodeOf, pT_peerOf, vN_1, mN_1, nO_1, pO_1, ixb_1, vpb_1, om_1, ixb_0, vpb_0, c0, c0', k2', k2'', glt, cm, eq_self, one0, if_true, if_false, not_true_eq_false, not_false_eq_true, true_implies, false_implies, implies_true, and_true, true_and], by simp only [P_M_store, pT_isNodeM, vN_1, mN_1, nO_1, pO_1, ixb_1, vpb_1, om_1, ixb_0, vpb_0, c0, c0', k2', k2'', glt, cm, eq_self, one0, if_true, if_false, not_true_eq_false, not_false_eq_true, true_implies, false_implies, implies_true, and_true, true_and], ?_⟩
        rw [eV, eM]
        exact RS.same hJ0 _
end
section
theorem Inv_room_0 {t : Nat} {n : Nat} {own blk ep ft : Nat → Nat} {sc : HH} {lk gr : Int32} {mp un : Nat → Nat → Bool} {q : Nat → List MSG} {wt : Nat → List Nat} {wx : Nat → Bool} {pv : Nat → Nat} (h : Inv t n own blk ep ft sc lk gr mp un q wt wx pv) (hs : sc 12 0 ≠ 0) : (q 0).length < 25 := by
  obtain ⟨iT, iG, iN0, iN1, iQ0, iQ1, iR0, iR1, iW, iC, iK, iE⟩ := h
  have h1 := iN0.both
  have h2 := iN1.both
  have h3 := qlen iQ0.1
  have h4 : (q 0).filter (fun a => a.1 == 5) = [] := by
    rw [List.filter_eq_nil_iff]
    intro a ha h5
    exact hs (iQ0.2.1 a ha (by simpa using h5)).2.1
  rw [h4, List.length_nil] at h3
  omega
theorem Inv_end_0 {t : Nat} {n : Nat} {own blk ep ft : Nat → Nat} {sc : HH} {lk gr : Int32} {mp un : Nat → Nat → Bool} {q : Nat → List MSG} {wt : Nat → List Nat} {wx : Nat → Bool} {pv : Nat → Nat} (h : Inv t n own blk ep ft sc lk gr mp un q wt wx pv) (hs : sc 12 0 ≠ 0) (hE : ∀ j, j < 32 → mp 0 j = false) (hl : lk ≠ 0) : Inv t n own blk ep (cft own ft 0 3 2 n) (u2 (u2 (u2 sc 12 0 0) 9 0 0) 7 0 0) lk gr mp un (ug q 0 (q 0 ++ [(5, 0, sc 6 0)])) wt wx pv := by
  obtain ⟨iT, iG, iN0, iN1, iQ0, iQ1, iR0, iR1, iW, iC, iK, iE⟩ := h
  obtain ⟨c1, c2, c3, c4, c5, c6, c7, c8⟩ := iC
  have hso : sc 12 1 = 0 := Classical.byContradiction (fun r => c6 ⟨hs, r⟩)
  have hto : sc 8 0 = 0 := c4 hs
  have hcu : sc 6 0 ≠ 0 := fun r => c1 r hto
  have ef : fwd (q 0 ++ [(5, 0, sc 6 0)]) = fwd (q 0) := (fwd_app _ _).trans (List.append_nil _)
  have eb : bck (q 0 ++ [(5, 0, sc 6 0)]) = bck (q 0) := (bck_app _ _).trans (List.append_nil _)
  have ed : dat (q 0 ++ [(5, 0, sc 6 0)]) = dat (q 0) := (dat_app _ _).trans (List.append_nil _)
  have nC : IN n own blk (cft own ft 0 3 2 n) 0 0 (mp 0) (un 0) (PL (q 1) (wt 1) (q 0 ++ [(5, 0, sc 6 0)])) := by
    have hp := (iN0.fates (ft' := cft own ft 0 3 2 n) (fun w _ _ _ => cft_1 (by decide) (by decide))).marks (src' := 0) (mp' := mp 0) (fun j hj => by
      obtain ⟨g1, g2, g3⟩ := iN0.2.2.2.1 j hj
      rw [hE j g1] at g2
      cases g2)
    unfold PL at hp ⊢
    rw [ef]
    exact hp
  have nO : IN n own blk (cft own ft 0 3 2 n) 1 (sc 12 1) (mp 1) (un 1) (PL (q 0 ++ [(5, 0, sc 6 0)]) (wt 0) (q 1)) := by
    have hp := iN1.fates (ft' := cft own ft 0 3 2 n) (fun w _ _ _ => cft_1 (by decide) (by decide))
    unfold PL at hp ⊢
    rw [eb]
    exact hp
  have nf : ∀ a, a ∈ q 0 → a.1 = 5 → False := fun a ha h5 => hs (iQ0.2.1 a ha h5).2.1
  have nQ : IQ (q 0 ++ [(5, 0, sc 6 0)]) 0 (sc 12 1) := by
    refine ⟨fun a ha => ?_, fun a ha h5 => ?_, ?_⟩
    · rcases List.mem_append.mp ha with ha | ha
      · exact iQ0.1 a ha
      · rw [List.mem_singleton.mp ha]
        exact (by decide : 1 ≤ 5 ∧ 5 ≤ 5)
    · rcases List.mem_append.mp ha with ha | ha
      · exact (nf a ha h5).elim
      · rw [List.mem_singleton.mp ha]
        exact ⟨hcu, rfl, hso⟩
    · have e4 : (q 0).filter (fun a => a.1 == 5) = [] := by
        rw [List.filter_eq_nil_iff]
        intro a ha h5
        exact nf a ha (by simpa using h5)
      rw [List.filter_append, e4]
      exact Nat.le_refl 1
  have nQo : IQ (q 1) 0 (sc 12 1) := ⟨iQ1.1, fun a ha h5 => absurd (iQ1.2.1 a ha h5).2.1 hs, iQ1.2.2⟩
  have nR : IR (wt 1) (q 0 ++ [(5, 0, sc 6 0)]) := by
    unfold IR
    rw [ed]
    exact iR0
  refine ⟨⟨iT.1, fun w g1 g2 => ⟨(iT.2 w g1 g2).1, (iT.2 w g1 g2).2.1, (iT.2 w g1 g2).2.2.1, cft_lt (iT.2 w g1 g2).2.2.2 (by decide)⟩⟩, iG, nC, nO, nQ, nQo, nR, iR1, iW, ?_, fun r => absurd r hl, iE⟩
  exact ⟨c1, c2, c3, fun r => absurd rfl r, c5, fun r => r.1 rfl, Or.inl rfl, c8⟩
theorem Inv_room_1 {t : Nat} {n : Nat} {own blk ep ft : Nat → Nat} {sc : HH} {lk gr : Int32} {mp un : Nat → Nat → Bool} {q : Nat → List MSG} {wt : Nat → List Nat} {wx : Nat → Bool} {pv : Nat → Nat} (h : Inv t n own blk ep ft sc lk gr mp un q wt wx pv) (hs : sc 12 1 ≠ 0) : (q 1).length < 25 := by
  obtain ⟨iT, iG, iN0, iN1, iQ0, iQ1, iR0, iR1, iW, iC, iK, iE⟩ := h
  have h1 := iN0.both
  have h2 := iN1.both
  have h3 := qlen iQ1.1
  have h4 : (q 1).filter (fun a => a.1 == 5) = [] := by
    rw [List.filter_eq_nil_iff]
    intro a ha h5
    exact hs (iQ1.2.1 a ha (by simpa using h5)).2.2
  rw [h4, List.length_nil] at h3
  omega
theorem Inv_end_1 {t : Nat} {n : Nat} {own blk ep ft : Nat → Nat} {sc : HH} {lk gr : Int32} {mp un : Nat → Nat → Bool} {q : Nat → List MSG} {wt : Nat → List Nat} {wx : Nat → Bool} {pv : Nat → Nat} (h : Inv t n own blk ep ft sc lk gr mp un q wt wx pv) (hs : sc 12 1 ≠ 0) (hE : ∀ j, j < 32 → mp 1 j = false) (hl : lk ≠ 0) : Inv t n own blk ep (cft own ft 1 3 2 n) (u2 (u2 (u2 sc 12 1 0) 9 1 0) 7 1 0) lk gr mp un (ug q 1 (q 1 ++ [(5, 0, sc 6 1)])) wt wx pv := by
  obtain ⟨iT, iG, iN0, iN1, iQ0, iQ1, iR0, iR1, iW, iC, iK, iE⟩ := h
  obtain ⟨c1, c2, c3, c4, c5, c6, c7, c8⟩ := iC
  have hso : sc 12 0 = 0 := Classical.byContradiction (fun r => c6 ⟨r, hs⟩)
  have hto : sc 8 1 = 0 := c5 hs
  have hcu : sc 6 1 ≠ 0 := fun r => c2 r hto
  have ef : fwd (q 1 ++ [(5, 0, sc 6 1)]) = fwd (q 1) := (fwd_app _ _).trans (List.append_nil _)
  have eb : bck (q 1 ++ [(5, 0, sc 6 1)]) = bck (q 1) := (bck_app _ _).trans (List.append_nil _)
  have ed : dat (q 1 ++ [(5, 0, sc 6 1)]) = dat (q 1) := (dat_app _ _).trans (List.append_nil _)
  have nC : IN n own blk (cft own ft 1 3 2 n) 1 0 (mp 1) (un 1) (PL (q 0) (wt 0) (q 1 ++ [(5, 0, sc 6 1)])) := by
    have hp := (iN1.fates (ft' := cft own ft 1 3 2 n) (fun w _ _ _ => cft_1 (by decide) (by decide))).marks (src' := 0) (mp' := mp 1) (fun j hj => by
      obtain ⟨g1, g2, g3⟩ := iN1.2.2.2.1 j hj
      rw [hE j g1] at g2
      cases g2)
    unfold PL at hp ⊢
    rw [ef]
    exact hp
  have nO : IN n own blk (cft own ft 1 3 2 n) 0 (sc 12 0) (mp 0) (un 0) (PL (q 1 ++ [(5, 0, sc 6 1)]) (wt 1) (q 0)) := by
    have hp := iN0.fates (ft' := cft own ft 1 3 2 n) (fun w _ _ _ => cft_1 (by decide) (by decide))
    unfold PL at hp ⊢
    rw [eb]
    exact hp
  have nf : ∀ a, a ∈ q 1 → a.1 = 5 → False := fun a ha h5 => hs (iQ1.2.1 a ha h5).2.2
  have nQ : IQ (q 1 ++ [(5, 0, sc 6 1)]) (sc 12 0) 0 := by
    refine ⟨fun a ha => ?_, fun a ha h5 => ?_, ?_⟩
    · rcases List.mem_append.mp ha with ha | ha
      · exact iQ1.1 a ha
      · rw [List.mem_singleton.mp ha]
        exact (by decide : 1 ≤ 5 ∧ 5 ≤ 5)
    · rcases List.mem_append.mp ha with ha | ha
      · exact (nf a ha h5).elim
      · rw [List.mem_singleton.mp ha]
        exact ⟨hcu, hso, rfl⟩
    · have e4 : (q 1).filter (fun a => a.1 == 5) = [] := by
        rw [List.filter_eq_nil_iff]
        intro a ha h5
        exact nf a ha (by simpa using h5)
      rw [List.filter_append, e4]
      exact Nat.le_refl 1
  have nQo : IQ (q 0) (sc 12 0) 0 := ⟨iQ0.1, fun a ha h5 => absurd (iQ0.2.1 a ha h5).2.2 hs, iQ0.2.2⟩
  have nR : IR (wt 0) (q 1 ++ [(5, 0, sc 6 1)]) := by
    unfold IR
    rw [ed]
    exact iR1
  refine ⟨⟨iT.1, fun w g1 g2 => ⟨(iT.2 w g1 g2).1, (iT.2 w g1 g2).2.1, (iT.2 w g1 g2).2.2.1, cft_lt (iT.2 w g1 g2).2.2.2 (by decide)⟩⟩, iG, nO, nC, nQo, nQ, iR0, nR, iW, ?_, fun r => absurd r hl, iE⟩
  exact ⟨c1, c2, c3, c4, fun r => absurd rfl r, fun r => r.2 rfl, c7, Or.inl rfl⟩
theorem arr_0 (fz : Nat) (hz : 400 ≤ fz) {t : Nat} (ht : t ≤ 600) {n : Nat} {own blk ep ft : Nat → Nat} {sc : HH} {lk gr : Int32} {mp un : Nat → Nat → Bool} {q : Nat → List MSG} {wt : Nat → List Nat} {wx : Nat → Bool} {lg : Nat → List Nat} {us : Nat → Nat → Nat} {pv : Nat → Nat} {v m : HH} (hI : Inv t n own blk ep ft sc lk gr mp un q wt wx pv) {a : MSG} {tl : List MSG} (hq : q 0 = a :: tl) (hR : Rel n own blk ep ft sc lk gr mp un (ug q 0 tl) wt wx lg us pv (v) (m)) : P_V_arrive fz 11 (nI a.1) (sbj a) (vlu a) v ∧ P_M_arrive fz (nI 1) (nI a.1) (sbj a) (vlu a) m ∧ J2 (t + 1) (B_V_arrive fz 11 (nI a.1) (sbj a) (vlu a) v) (B_M_arrive fz (nI 1) (nI a.1) (sbj a) (vlu a) m) := by
  have hn := hI.1.1
  have hI' := hI
  obtain ⟨iT, iG, iN0, iN1, iQ0, iQ1, iR0, iR1, iW, iC, iK, iE⟩ := hI'
  have hR' := hR
  obtain ⟨hL, hT, hX, hS0, hM0, hD0, hR0, hA0, hW0, hG0, hU0, hE0, hS1, hM1, hD1, hR1, hA1, hW1, hG1, hU1, hE1⟩ := hR'
  have hlk : lk ≠ 0 := fun r => by
    have := (iK r).1
    rw [hq] at this
    cases this
  obtain ⟨k, s, x⟩ := a
  have hk := iQ0.1 (k, s, x) (by rw [hq]; exact List.mem_cons_self)
  have hxc : ix (nI 1) = 1 := nI_clamp (by decide)
  have hvc : vp_in (nI 1) 2 := vp_in_nI (by decide) (by decide)
  obtain ⟨jT, jG, jN0, jN1, jQ0, jQ1, jR0, jR1, jW, jC, jK, jE⟩ := hI.mono (show t ≤ t + 1 by omega)
  rw [hq] at iN0 iN1 iQ0 iR0 jN0 jN1 jQ0 jR0
  have jQt := jQ0.tail
  rcases (show k = 1 ∨ k = 2 ∨ k = 3 ∨ k = 4 ∨ k = 5 by omega) with rfl | rfl | rfl | rfl | rfl
  · have e1 : sbj (1, s, x) = nI s := rfl
    have ef : fwd ((1, s, x) :: tl) = (0, s) :: fwd tl := rfl
    have eb : bck ((1, s, x) :: tl) = bck tl := rfl
    have ed : dat ((1, s, x) :: tl) = s :: dat tl := rfl
    have hmem : (0, s) ∈ PL (q 1) (wt 1) ((1, s, x) :: tl) := List.mem_append_right _ (List.mem_append_right _ (by rw [ef]; exact List.mem_cons_self))
    obtain ⟨⟨g1, g2⟩, g3, g4⟩ := (iN0.2.2.1 s).mp hmem
    have hroom : (wt 1).length < 8 := by
      have h0 := iN0.len.2
      unfold PL wmp at h0
      rw [ef, List.filter_append, List.filter_append, List.length_append, List.length_append] at h0
      have h1 : (List.filter (fun y : Nat × Nat => y.1 == 0) ((wt 1).map (fun w => (0, w)))).length = (wt 1).length := by
        rw [List.filter_eq_self.mpr (fun y hy => by
          obtain ⟨z, _, rfl⟩ := List.mem_map.mp hy
          rfl), List.length_map]
      have h2 : (List.filter (fun y : Nat × Nat => y.1 == 0) ((0, s) :: fwd tl)).length = (List.filter (fun y : Nat × Nat => y.1 == 0) (fwd tl)).length + 1 := rfl
      omega
    have hxs : ix (nI s) = s := nI_clamp (by omega)
    have hvs : vp_in (nI s) 301 := vp_in_nI (by omega) (by decide)
    obtain ⟨p1, r1⟩ := r_wadd_1 fz hR hroom (w := s) (x := nI s) rfl
    have r2 := r_wx r1 g1 true (x := 1) rfl
    have y1 : nI 1 = (1 : Int32) := li1.symm
    refine ⟨by simp only [P_V_arrive, e1, y1, p1, eq_self, one0, if_true, if_false, not_true_eq_false, not_false_eq_true, true_implies, false_implies, implies_true, and_true, true_and], by simp only [P_M_arrive, e1, y1, hvs, eq_self, one0, if_true, if_false, not_true_eq_false, not_false_eq_true, true_implies, false_implies, implies_true, and_true, true_and], ?_⟩
    have eV : B_V_arrive fz 11 (nI (1, s, x).1) (sbj (1, s, x)) (vlu (1, s, x)) v = B_L_add fz 11 (nI s) v := by simp only [B_V_arrive, e1, y1, eq_self, one0, if_true, if_false, not_true_eq_false, not_false_eq_true, true_implies, false_implies, implies_true, and_true, true_and]
    have eM : B_M_arrive fz (nI 1) (nI (1, s, x).1) (sbj (1, s, x)) (vlu (1, s, x)) m = u2 m 33 s 1 := by simp only [B_M_arrive, e1, y1, hxs, eq_self, one0, if_true, if_false, not_true_eq_false, not_false_eq_true, true_implies, false_implies, implies_true, and_true, true_and]
    rw [eV, eM]
    have nB : IN n own blk ft 0 (sc 12 0) (mp 0) (un 0) (PL (q 1) (wt 1 ++ [s]) tl) := by
      have e : PL (q 1) (wt 1 ++ [s]) tl = PL (q 1) (wt 1) ((1, s, x) :: tl) := by
        unfold PL wmp
        rw [ef, List.map_append, List.append_assoc]
        rfl
      rw [e]
      exact jN0
    have nC : IN n own blk ft 1 (sc 12 1) (mp 1) (un 1) (PL tl (wt 0) (q 1)) := jN1
    have nR : IR (wt 1 ++ [s]) tl := by
      unfold IR at jR0 ⊢
      rw [ed] at jR0
      rw [List.append_assoc]
      exact jR0
    have nW : IW n own (wt 0) (wt 1 ++ [s]) (ug wx s true) := by
      intro y h1 h2
      unfold ug
      by_cases ey : y = s
      · subst ey
        rw [if_pos rfl]
        exact ⟨fun _ => ⟨g2, Or.inr ⟨g3, List.mem_append_right _ List.mem_cons_self⟩⟩, fun _ => rfl⟩
      · rw [if_neg ey, jW y h1 h2, List.mem_append, List.mem_singleton]
        simp only [ey, or_false]
    exact ⟨n, own, blk, ep, ft, sc, lk, gr, mp, un, ug q 0 tl, ug wt 1 (wt 1 ++ [s]), ug wx s true, lg, us, pv, r2, jT, jG, nB, nC, jQt, jQ1, nR, jR1, nW, jC, fun r => absurd r hlk, jE⟩
  · have e1 : sbj (2, s, x) = nI s := rfl
    have ef : fwd ((2, s, x) :: tl) = fwd tl := rfl
    have eb : bck ((2, s, x) :: tl) = (0, s) :: bck tl := rfl
    have ed : dat ((2, s, x) :: tl) = dat tl := rfl
    have ePL : PL ((2, s, x) :: tl) (wt 0) (q 1) = (0, s) :: PL tl (wt 0) (q 1) := rfl
    rw [ePL] at iN1 jN1
    obtain ⟨⟨g1, g2⟩, g3, g4⟩ := (iN1.2.2.1 s).mp List.mem_cons_self
    obtain ⟨o1, o2, o3, o4⟩ := iT.2 s g1 g2
    have hxs : ix (nI s) = s := nI_clamp (by omega)
    have hvs : vp_in (nI s) 301 := vp_in_nI (by omega) (by decide)
    have y2 : nI 2 = (2 : Int32) := li2.symm
    have n21 : ¬ (2 : Int32) = 1 := by decide
    have r1 := r_ft hR g1 g2 2 li2
    have jT' : IT n own blk ep (ug ft s 2) := ⟨jT.1, fun w h1 h2 => ⟨(jT.2 w h1 h2).1, (jT.2 w h1 h2).2.1, (jT.2 w h1 h2).2.2.1, by
      unfold ug
      split
      · decide
      · exact (jT.2 w h1 h2).2.2.2⟩⟩
    have nB : IN n own blk (ug ft s 2) 0 (sc 12 0) (mp 0) (un 0) (PL (q 1) (wt 1) tl) := jN0.fates (fun w h1 h2 h3 => by
      unfold ug
      by_cases ew : w = s
      · subst ew
        omega
      · rw [if_neg ew])
    have q12 : (u2 v 26 s 2) 11 12 = sc 12 1 := by
      obtain ⟨z0, z1, z2, z3, z4, z5, z6, z7, z8, z9, z10, z11, z12, z13, z14, z15, z16⟩ := hS1
      exact z7
    have m44 : (u2 m 32 s 2) 44 1 = sc 12 1 := by
      obtain ⟨z0, z1, z2, z3, z4, z5, z6, z7, z8, z9, z10, z11, z12, z13, z14, z15, z16⟩ := hS1
      exact z15
    obtain ⟨⟨t1, t2, t3, t4, t5⟩, f1, f2, f3, f4⟩ := hT.2.2.2.2 s g1 g2
    have v23 : (u2 v 26 s 2) 23 s = nI (blk s) := t2
    have m29 : (u2 m 32 s 2) 29 s = nI (blk s) := f2
    by_cases hs : sc 12 1 = 0
    · refine ⟨by simp only [P_V_arrive, P_V_takeAck, P_V_takeAck_10, e1, y2, n21, hxs, hvs, q12, hs, eq_self, one0, if_true, if_false, not_true_eq_false, not_false_eq_true, true_implies, false_implies, implies_true, and_true, true_and], by simp only [P_M_arrive, P_M_arrive_27, e1, y2, n21, hxs, hvs, hxc, hvc, m44, hs, eq_self, one0, if_true, if_false, not_true_eq_false, not_false_eq_true, true_implies, false_implies, implies_true, and_true, true_and], ?_⟩
      have eV : B_V_arrive fz 11 (nI (2, s, x).1) (sbj (2, s, x)) (vlu (2, s, x)) v = u2 v 26 s 2 := by simp only [B_V_arrive, B_V_takeAck, B_V_takeAck_10, e1, y2, n21, hxs, q12, hs, eq_self, one0, if_true, if_false, not_true_eq_false, not_false_eq_true, true_implies, false_implies, implies_true, and_true, true_and]
      have eM : B_M_arrive fz (nI 1) (nI (2, s, x).1) (sbj (2, s, x)) (vlu (2, s, x)) m = u2 m 32 s 2 := by simp only [B_M_arrive, B_M_arrive_27, e1, y2, n21, hxs, hxc, m44, hs, eq_self, one0, if_true, if_false, not_true_eq_false, not_false_eq_true, true_implies, false_implies, implies_true, and_true, true_and]
      rw [eV, eM]
      have nC := jN1.pop0 (mp' := mp 1) (fun j h1 _ h => h)
      exact ⟨n, own, blk, ep, ug ft s 2, sc, lk, gr, mp, un, ug q 0 tl, wt, wx, lg, us, pv, r1, jT', jG, nB, nC, jQt, jQ1, jR0, jR1, jW, jC, fun r => absurd r hlk, jE⟩
    · have r2 := r_mapclr_1 r1 o2
      have nC := jN1.pop0 (mp' := fun k => mp 1 k && !decide (k = blk s)) (fun j _ h2 h3 => by simp [h2, h3])
      have hI1 : Inv (t + 1) n own blk ep (ug ft s 2) sc lk gr (ug mp 1 (fun k => mp 1 k && !decide (k = blk s))) un (ug q 0 tl) wt wx pv := ⟨jT', jG, nB, nC, jQt, jQ1, jR0, jR1, jW, jC, fun r => absurd r hlk, jE⟩
      have hroom := Inv_room_1 hI1 hs
      obtain ⟨hE1, hE2⟩ := r_endif_1 fz hz hn (fun w h1 h2 => ⟨(jT'.2 w h1 h2).1, (jT'.2 w h1 h2).2.2.2⟩) r2 hroom
      have hx64 : ix (nI (32 * 1 + blk s)) = 32 * 1 + blk s := nI_clamp (by omega)
      have hv64 : vp_in (nI (32 * 1 + blk s)) 64 := vp_in_nI (by omega) (by decide)
      by_cases hE : ∀ j, j < 32 → ug mp 1 (fun k => mp 1 k && !decide (k = blk s)) 1 j = false
      · obtain ⟨w1, w2, w3, w4⟩ := hE1 hE
        refine ⟨by simp only [P_V_arrive, P_V_takeAck, P_V_takeAck_10, P_V_takeFromMap, P_V_takeFromMap_14, e1, y2, n21, hxs, hvs, q12, hs, v23, w1, w2, eq_self, one0, if_true, if_false, not_true_eq_false, not_false_eq_true, true_implies, false_implies, implies_true, and_true, true_and], by simp only [P_M_arrive, P_M_arrive_27, P_M_arrive_53, e1, y2, n21, hxs, hvs, hxc, hvc, m44, hs, m29, x32, hx64, hv64, w3, eq_self, one0, if_true, if_false, not_true_eq_false, not_false_eq_true, true_implies, false_implies, implies_true, and_true, true_and], ?_⟩
        simp only [B_V_arrive, B_V_takeAck, B_V_takeAck_10, B_V_takeFromMap, B_V_takeFromMap_14, B_M_arrive, B_M_arrive_27, B_M_arrive_53, e1, y2, n21, hxs, hxc, q12, m44, hs, v23, m29, x32, hx64, w1, eq_self, one0, if_true, if_false, not_true_eq_false, not_false_eq_true, true_implies, false_implies, implies_true, and_true, true_and]
        exact ⟨_, _, _, _, _, _, _, _, _, _, _, _, _, lg, us, _, w4, Inv_end_1 hI1 hs hE hlk⟩
      · obtain ⟨w1, w2, w3⟩ := hE2 hE
        refine ⟨by simp only [P_V_arrive, P_V_takeAck, P_V_takeAck_10, P_V_takeFromMap, P_V_takeFromMap_14, e1, y2, n21, hxs, hvs, q12, hs, v23, w1, eq_self, one0, if_true, if_false, not_true_eq_false, not_false_eq_true, true_implies, false_implies, implies_true, and_true, true_and], by simp only [P_M_arrive, P_M_arrive_27, P_M_arrive_53, e1, y2, n21, hxs, hvs, hxc, hvc, m44, hs, m29, x32, hx64, hv64, w2, eq_self, one0, if_true, if_false, not_true_eq_false, not_false_eq_true, true_implies, false_implies, implies_true, and_true, true_and], ?_⟩
        simp only [B_V_arrive, B_V_takeAck, B_V_takeAck_10, B_V_takeFromMap, B_V_takeFromMap_14, B_M_arrive, B_M_arrive_27, B_M_arrive_53, e1, y2, n21, hxs, hxc, q12, m44, hs, v23, m29, x32, hx64, w1, w3, eq_self, one0, if_true, if_false, not_true_eq_false, not_false_eq_true, true_implies, false_implies, implies_true, and_true, true_and]
        exact ⟨_, _, _, _, _, _, _, _, _, _, _, _, _, lg, us, _, r2, hI1⟩
  · have e1 : sbj (3, s, x) = nI s := rfl
    have e2 : vlu (3, s, x) = x := rfl
    have ef : fwd ((3, s, x) :: tl) = (1, s) :: fwd tl := rfl
    have eb : bck ((3, s, x) :: tl) = bck tl := rfl
    have hmem : (1, s) ∈ PL (q 1) (wt 1) ((3, s, x) :: tl) := List.mem_append_right _ (List.mem_append_right _ (by rw [ef]; exact List.mem_cons_self))
    obtain ⟨g1, g2, g3⟩ := iN0.2.2.2.1 s hmem
    have hxs : ix (nI s) = s := nI_clamp (by omega)
    have hvs : vp_in (nI s) 32 := vp_in_nI (by omega) (by decide)
    have hx64 : ix (nI (32 * 1 + s)) = 32 * 1 + s := nI_clamp (by omega)
    have hv64 : vp_in (nI (32 * 1 + s)) 64 := vp_in_nI (by omega) (by decide)
    have y3 : nI 3 = (3 : Int32) := li3.symm
    have n31 : ¬ (3 : Int32) = 1 := by decide
    have n32 : ¬ (3 : Int32) = 2 := by decide
    have r1 := r_disk_1 hR g1 x
    have hroom : (q 1).length < 25 := by
      have h1 := iN0.both
      have h2 := iN1.both
      rw [ef, List.length_cons] at h1
      exact qroom iQ1 (by omega)
    obtain ⟨p1, p2, r2⟩ := r_send_1 fz r1 hroom (4, s, 0) (k := 4) (s := nI s) (x := 0) (k2 := 4) (s2 := nI s) (x2 := 0) li4 rfl rfl li4 rfl rfl
    refine ⟨by simp only [P_V_arrive, P_V_arrive_64, e1, e2, y3, n31, n32, hxs, hvs, p1, eq_self, one0, if_true, if_false, not_true_eq_false, not_false_eq_true, true_implies, false_implies, implies_true, and_true, true_and], by simp only [P_M_arrive, P_M_arrive_79, e1, e2, y3, n31, n32, x32, hx64, hv64, p2, eq_self, one0, if_true, if_false, not_true_eq_false, not_false_eq_true, true_implies, false_implies, implies_true, and_true, true_and], ?_⟩
    simp only [B_V_arrive, B_V_arrive_64, B_M_arrive, B_M_arrive_79, e1, e2, y3, n31, n32, hxs, x32, hx64, eq_self, one0, if_true, if_false, not_true_eq_false, not_false_eq_true, true_implies, false_implies, implies_true, and_true, true_and]
    have eb4 : bck (q 1 ++ [(4, s, 0)]) = bck (q 1) ++ [(1, s)] := bck_app _ _
    have ef4 : fwd (q 1 ++ [(4, s, 0)]) = fwd (q 1) := (fwd_app _ _).trans (List.append_nil _)
    have ed4 : dat (q 1 ++ [(4, s, 0)]) = dat (q 1) := (dat_app _ _).trans (List.append_nil _)
    have nB : IN n own blk ft 0 (sc 12 0) (mp 0) (un 0) (PL (q 1 ++ [(4, s, 0)]) (wt 1) tl) := by
      have hp := jN0
      unfold PL at hp ⊢
      rw [ef] at hp
      rw [eb4]
      exact hp.perm copy_perm (copy_order hp.2.2.2.2.1)
    have nC : IN n own blk ft 1 (sc 12 1) (mp 1) (un 1) (PL tl (wt 0) (q 1 ++ [(4, s, 0)])) := by
      have hp := jN1
      unfold PL at hp ⊢
      rw [ef4]
      exact hp
    have nR : IR (wt 0) (q 1 ++ [(4, s, 0)]) := by
      unfold IR
      rw [ed4]
      exact jR1
    exact ⟨_, _, _, _, _, _, _, _, _, _, _, _, _, lg, us, _, r2, jT, jG, nB, nC, jQt, jQ1.snoc (show 1 ≤ 4 by decide) (show 4 < 5 by decide), jR0, nR, jW, jC, fun r => absurd r hlk, jE⟩
  · have e1 : sbj (4, s, x) = nI s := rfl
    have ePL : PL ((4, s, x) :: tl) (wt 0) (q 1) = (1, s) :: PL tl (wt 0) (q 1) := rfl
    rw [ePL] at iN1 jN1
    obtain ⟨g1, g2, g3⟩ := iN1.2.2.2.1 s List.mem_cons_self
    have hxs : ix (nI s) = s := nI_clamp (by omega)
    have hx64 : ix (nI (32 * 1 + s)) = 32 * 1 + s := nI_clamp (by omega)
    have hv64 : vp_in (nI (32 * 1 + s)) 64 := vp_in_nI (by omega) (by decide)
    have y4 : nI 4 = (4 : Int32) := li4.symm
    have n41 : ¬ (4 : Int32) = 1 := by decide
    have n42 : ¬ (4 : Int32) = 2 := by decide
    have n43 : ¬ (4 : Int32) = 3 := by decide
    have r2 := r_mapclr_1 (r_un_1 hR (v 11 14 &&& (((1 : Int32) <<< (nI s &&& 31)) ^^^ (-1 : Int32)))) g1
    have nC : IN n own blk ft 1 (sc 12 1) (fun k => mp 1 k && !decide (k = s)) (bt (v 11 14 &&& (((1 : Int32) <<< (nI s &&& 31)) ^^^ (-1 : Int32)))) (PL tl (wt 0) (q 1)) := (jN1.pop1 (mp' := fun k => mp 1 k && !decide (k = s)) (fun j h1 h2 => by simp [h1, h2])).congrU (fun j hj => by rw [bt_clr _ g1 hj, hU1 j hj]) (fun _ _ => rfl)
    have hI1 : Inv (t + 1) n own blk ep ft sc lk gr (ug mp 1 (fun k => mp 1 k && !decide (k = s))) (ug un 1 (bt (v 11 14 &&& (((1 : Int32) <<< (nI s &&& 31)) ^^^ (-1 : Int32))))) (ug q 0 tl) wt wx pv := ⟨jT, jG, jN0, nC, jQt, jQ1, jR0, jR1, jW, jC, fun r => absurd r hlk, jE⟩
    have hroom := Inv_room_1 hI1 g3
    obtain ⟨hE1, hE2⟩ := r_endif_1 fz hz hn (fun w h1 h2 => ⟨(jT.2 w h1 h2).1, (jT.2 w h1 h2).2.2.2⟩) r2 hroom
    by_cases hE : ∀ j, j < 32 → ug mp 1 (fun k => mp 1 k && !decide (k = s)) 1 j = false
    · obtain ⟨w1, w2, w3, w4⟩ := hE1 hE
      refine ⟨by simp only [P_V_arrive, P_V_arrive_91, P_V_takeFromMap, P_V_takeFromMap_14, e1, y4, n41, n42, n43, w1, w2, eq_self, one0, if_true, if_false, not_true_eq_false, not_false_eq_true, true_implies, false_implies, implies_true, and_true, true_and], by simp only [P_M_arrive, P_M_arrive_107, e1, y4, n41, n42, n43, x32, hx64, hv64, w3, eq_self, one0, if_true, if_false, not_true_eq_false, not_false_eq_true, true_implies, false_implies, implies_true, and_true, true_and], ?_⟩
      simp only [B_V_arrive, B_V_arrive_91, B_V_takeFromMap, B_V_takeFromMap_14, B_M_arrive, B_M_arrive_107, e1, y4, n41, n42, n43, x32, hx64, w1, eq_self, one0, if_true, if_false, not_true_eq_false, not_false_eq_true, true_implies, false_implies, implies_true, and_true, true_and]
      exact ⟨_, _, _, _, _, _, _, _, _, _, _, _, _, lg, us, _, w4, Inv_end_1 hI1 g3 hE hlk⟩
    · obtain ⟨w1, w2, w3⟩ := hE2 hE
      refine ⟨by simp only [P_V_arrive, P_V_arrive_91, P_V_takeFromMap, P_V_takeFromMap_14, e1, y4, n41, n42, n43, w1, eq_self, one0, if_true, if_false, not_true_eq_false, not_false_eq_true, true_implies, false_implies, implies_true, and_true, true_and], by simp only [P_M_arrive, P_M_arrive_107, e1, y4, n41, n42, n43, x32, hx64, hv64, w2, eq_self, one0, if_true, if_false, not_true_eq_false, not_false_eq_true, true_implies, false_implies, implies_true, and_true, true_and], ?_⟩
      simp only [B_V_arrive, B_V_arrive_91, B_V_takeFromMap, B_V_takeFromMap_14, B_M_arrive, B_M_arrive_107, e1, y4, n41, n42, n43, x32, hx64, w1, w3, eq_self, one0, if_true, if_false, not_true_eq_false, not_false_eq_true, true_implies, false_implies, implies_true, and_true, true_and]
      exact ⟨_, _, _, _, _, _, _, _, _, _, _, _, _, lg, us, _, r2, hI1⟩
  · have e1 : sbj (5, s, x) = x := rfl
    obtain ⟨hx0, z0, z1⟩ := iQ0.2.1 (5, s, x) List.mem_cons_self rfl
    have y5 : nI 5 = (5 : Int32) := li5.symm
    have n51 : ¬ (5 : Int32) = 1 := by decide
    have n52 : ¬ (5 : Int32) = 2 := by decide
    have n53 : ¬ (5 : Int32) = 3 := by decide
    have n54 : ¬ (5 : Int32) = 4 := by decide
    have r1 := r_set_7_1 (r_set_6_1 (r_mapall_1 (X := 0) (f := fun _ => 0) (r_set_9_1 (r_set_8_1 (r_set_13_1 hR 0) 0) 0) (fun j _ => by rw [b_0]; rfl)) x) 0
    have cm := cv_finish fz hz (b := 1) (by decide) x (u2 (u2 (u2 m 45 1 0) 40 1 0) 41 1 0)
    refine ⟨by simp only [P_V_arrive, P_N_takeFinish, e1, y5, n51, n52, n53, n54, eq_self, one0, if_true, if_false, not_true_eq_false, not_false_eq_true, true_implies, false_implies, implies_true, and_true, true_and], by simp only [P_M_arrive, e1, y5, n51, n52, n53, n54, hxc, hvc, cm, eq_self, one0, if_true, if_false, not_true_eq_false, not_false_eq_true, true_implies, false_implies, implies_true, and_true, true_and], ?_⟩
    simp only [B_V_arrive, B_N_takeFinish, B_M_arrive, e1, y5, n51, n52, n53, n54, hxc, cm, eq_self, one0, if_true, if_false, not_true_eq_false, not_false_eq_true, true_implies, false_implies, implies_true, and_true, true_and]
    obtain ⟨c1, c2, c3, c4, c5, c6, c7, c8⟩ := jC
    have nC : IN n own blk ft 1 (sc 12 1) (bt 0) (un 1) (PL tl (wt 0) (q 1)) := jN1.marks (fun j hj => absurd z1 (jN1.2.2.2.1 j hj).2.2)
    refine ⟨_, _, _, _, _, _, _, _, _, _, _, _, _, lg, us, _, r1, jT, jG, jN0, nC, jQt, jQ1, jR0, jR1, jW, ?_, fun r => absurd r hlk, jE⟩
    exact ⟨c1, fun r => absurd r hx0, fun r => r.2 rfl, c4, fun _ => rfl, c6, c7, Or.inl rfl⟩
theorem arr_1 (fz : Nat) (hz : 400 ≤ fz) {t : Nat} (ht : t ≤ 600) {n : Nat} {own blk ep ft : Nat → Nat} {sc : HH} {lk gr : Int32} {mp un : Nat → Nat → Bool} {q : Nat → List MSG} {wt : Nat → List Nat} {wx : Nat → Bool} {lg : Nat → List Nat} {us : Nat → Nat → Nat} {pv : Nat → Nat} {v m : HH} (hI : Inv t n own blk ep ft sc lk gr mp un q wt wx pv) {a : MSG} {tl : List MSG} (hq : q 1 = a :: tl) (hR : Rel n own blk ep ft sc lk gr mp un (ug q 1 tl) wt wx lg us pv (v) (m)) : P_V_arrive fz 1 (nI a.1) (sbj a) (vlu a) v ∧ P_M_arrive fz (nI 0) (nI a.1) (sbj a) (vlu a) m ∧ J2 (t + 1) (B_V_arrive fz 1 (nI a.1) (sbj a) (vlu a) v) (B_M_arrive fz (nI 0) (nI a.1) (sbj a) (vlu a) m) := by
  have hn := hI.1.1
  have hI' := hI
  obtain ⟨iT, iG, iN0, iN1, iQ0, iQ1, iR0, iR1, iW, iC, iK, iE⟩ := hI'
  have hR' := hR
  obtain ⟨hL, hT, hX, hS0, hM0, hD0, hR0, hA0, hW0, hG0, hU0, hE0, hS1, hM1, hD1, hR1, hA1, hW1, hG1, hU1, hE1⟩ := hR'
  have hlk : lk ≠ 0 := fun r => by
    have := (iK r).2.1
    rw [hq] at this
    cases this
  obtain ⟨k, s, x⟩ := a
  have hk := iQ1.1 (k, s, x) (by rw [hq]; exact List.mem_cons_self)
  have hxc : ix (nI 0) = 0 := nI_clamp (by decide)
  have hvc : vp_in (nI 0) 2 := vp_in_nI (by decide) (by decide)
  obtain ⟨jT, jG, jN0, jN1, jQ0, jQ1, jR0, jR1, jW, jC, jK, jE⟩ := hI.mono (show t ≤ t + 1 by omega)
  rw [hq] at iN1 iN0 iQ1 iR1 jN1 jN0 jQ1 jR1
  have jQt := jQ1.tail
  rcases (show k = 1 ∨ k = 2 ∨ k = 3 ∨ k = 4 ∨ k = 5 by omega) with rfl | rfl | rfl | rfl | rfl
  · have e1 : sbj (1, s, x) = nI s := rfl
    have ef : fwd ((1, s, x) :: tl) = (0, s) :: fwd tl := rfl
    have eb : bck ((1, s, x) :: tl) = bck tl := rfl
    have ed : dat ((1, s, x) :: tl) = s :: dat tl := rfl
    have hmem : (0, s) ∈ PL (q 0) (wt 0) ((1, s, x) :: tl) := List.mem_append_right _ (List.mem_append_right _ (by rw [ef]; exact List.mem_cons_self))
    obtain ⟨⟨g1, g2⟩, g3, g4⟩ := (iN1.2.2.1 s).mp hmem
    have hroom : (wt 0).length < 8 := by
      have h0 := iN1.len.2
      unfold PL wmp at h0
      rw [ef, List.filter_append, List.filter_append, List.length_append, List.length_append] at h0
      have h1 : (List.filter (fun y : Nat × Nat => y.1 == 0) ((wt 0).map (fun w => (0, w)))).length = (wt 0).length := by
        rw [List.filter_eq_self.mpr (fun y hy => by
          obtain ⟨z, _, rfl⟩ := List.mem_map.mp hy
          rfl), List.length_map]
      have h2 : (List.filter (fun y : Nat × Nat => y.1 == 0) ((0, s) :: fwd tl)).length = (List.filter (fun y : Nat × Nat => y.1 == 0) (fwd tl)).length + 1 := rfl
      omega
    have hxs : ix (nI s) = s := nI_clamp (by omega)
    have hvs : vp_in (nI s) 301 := vp_in_nI (by omega) (by decide)
    obtain ⟨p1, r1⟩ := r_wadd_0 fz hR hroom (w := s) (x := nI s) rfl
    have r2 := r_wx r1 g1 true (x := 1) rfl
    have y1 : nI 1 = (1 : Int32) := li1.symm
    refine ⟨by simp only [P_V_arrive, e1, y1, p1, eq_self, one0, if_true, if_false, not_true_eq_false, not_false_eq_true, true_implies, false_implies, implies_true, and_true, true_and], by simp only [P_M_arrive, e1, y1, hvs, eq_self, one0, if_true, if_false, not_true_eq_false, not_false_eq_true, true_implies, false_implies, implies_true, and_true, true_and], ?_⟩
    have eV : B_V_arrive fz 1 (nI (1, s, x).1) (sbj (1, s, x)) (vlu (1, s, x)) v = B_L_add fz 1 (nI s) v := by simp only [B_V_arrive, e1, y1, eq_self, one0, if_true, if_false, not_true_eq_false, not_false_eq_true, true_implies, false_implies, implies_true, and_true, true_and]
    have eM : B_M_arrive fz (nI 0) (nI (1, s, x).1) (sbj (1, s, x)) (vlu (1, s, x)) m = u2 m 33 s 1 := by simp only [B_M_arrive, e1, y1, hxs, eq_self, one0, if_true, if_false, not_true_eq_false, not_false_eq_true, true_implies, false_implies, implies_true, and_true, true_and]
    rw [eV, eM]
    have nB : IN n own blk ft 1 (sc 12 1) (mp 1) (un 1) (PL (q 0) (wt 0 ++ [s]) tl) := by
      have e : PL (q 0) (wt 0 ++ [s]) tl = PL (q 0) (wt 0) ((1, s, x) :: tl) := by
        unfold PL wmp
        rw [ef, List.map_append, List.append_assoc]
        rfl
      rw [e]
      exact jN1
    have nC : IN n own blk ft 0 (sc 12 0) (mp 0) (un 0) (PL tl (wt 1) (q 0)) := jN0
    have nR : IR (wt 0 ++ [s]) tl := by
      unfold IR at jR1 ⊢
      rw [ed] at jR1
      rw [List.append_assoc]
      exact jR1
    have nW : IW n own (wt 0 ++ [s]) (wt 1) (ug wx s true) := by
      intro y h1 h2
      unfold ug
      by_cases ey : y = s
      · subst ey
        rw [if_pos rfl]
        exact ⟨fun _ => ⟨g2, Or.inl ⟨g3, List.mem_append_right _ List.mem_cons_self⟩⟩, fun _ => rfl⟩
      · rw [if_neg ey, jW y h1 h2, List.mem_append, List.mem_singleton]
        simp only [ey, or_false]
    exact ⟨n, own, blk, ep, ft, sc, lk, gr, mp, un, ug q 1 tl, ug wt 0 (wt 0 ++ [s]), ug wx s true, lg, us, pv, r2, jT, jG, nC, nB, jQ0, jQt, jR0, nR, nW, jC, fun r => absurd r hlk, jE⟩
  · have e1 : sbj (2, s, x) = nI s := rfl
    have ef : fwd ((2, s, x) :: tl) = fwd tl := rfl
    have eb : bck ((2, s, x) :: tl) = (0, s) :: bck tl := rfl
    have ed : dat ((2, s, x) :: tl) = dat tl := rfl
    have ePL : PL ((2, s, x) :: tl) (wt 1) (q 0) = (0, s) :: PL tl (wt 1) (q 0) := rfl
    rw [ePL] at iN0 jN0
    obtain ⟨⟨g1, g2⟩, g3, g4⟩ := (iN0.2.2.1 s).mp List.mem_cons_self
    obtain ⟨o1, o2, o3, o4⟩ := iT.2 s g1 g2
    have hxs : ix (nI s) = s := nI_clamp (by omega)
    have hvs : vp_in (nI s) 301 := vp_in_nI (by omega) (by decide)
    have y2 : nI 2 = (2 : Int32) := li2.symm
    have n21 : ¬ (2 : Int32) = 1 := by decide
    have r1 := r_ft hR g1 g2 2 li2
    have jT' : IT n own blk ep (ug ft s 2) := ⟨jT.1, fun w h1 h2 => ⟨(jT.2 w h1 h2).1, (jT.2 w h1 h2).2.1, (jT.2 w h1 h2).2.2.1, by
      unfold ug
      split
      · decide
      · exact (jT.2 w h1 h2).2.2.2⟩⟩
    have nB : IN n own blk (ug ft s 2) 1 (sc 12 1) (mp 1) (un 1) (PL (q 0) (wt 0) tl) := jN1.fates (fun w h1 h2 h3 => by
      unfold ug
      by_cases ew : w = s
      · subst ew
        omega
      · rw [if_neg ew])
    have q12 : (u2 v 26 s 2) 1 12 = sc 12 0 := by
      obtain ⟨z0, z1, z2, z3, z4, z5, z6, z7, z8, z9, z10, z11, z12, z13, z14, z15, z16⟩ := hS0
      exact z7
    have m44 : (u2 m 32 s 2) 44 0 = sc 12 0 := by
      obtain ⟨z0, z1, z2, z3, z4, z5, z6, z7, z8, z9, z10, z11, z12, z13, z14, z15, z16⟩ := hS0
      exact z15
    obtain ⟨⟨t1, t2, t3, t4, t5⟩, f1, f2, f3, f4⟩ := hT.2.2.2.2 s g1 g2
    have v23 : (u2 v 26 s 2) 23 s = nI (blk s) := t2
    have m29 : (u2 m 32 s 2) 29 s = nI (blk s) := f2
    by_cases hs : sc 12 0 = 0
    · refine ⟨by simp only [P_V_arrive, P_V_takeAck, P_V_takeAck_10, e1, y2, n21, hxs, hvs, q12, hs, eq_self, one0, if_true, if_false, not_true_eq_false, not_false_eq_true, true_implies, false_implies, implies_true, and_true, true_and], by simp only [P_M_arrive, P_M_arrive_27, e1, y2, n21, hxs, hvs, hxc, hvc, m44, hs, eq_self, one0, if_true, if_false, not_true_eq_false, not_false_eq_true, true_implies, false_implies, implies_true, and_true, true_and], ?_⟩
      have eV : B_V_arrive fz 1 (nI (2, s, x).1) (sbj (2, s, x)) (vlu (2, s, x)) v = u2 v 26 s 2 := by simp only [B_V_arrive, B_V_takeAck, B_V_takeAck_10, e1, y2, n21, hxs, q12, hs, eq_self, one0, if_true, if_false, not_true_eq_false, not_false_eq_true, true_implies, false_implies, implies_true, and_true, true_and]
      have eM : B_M_arrive fz (nI 0) (nI (2, s, x).1) (sbj (2, s, x)) (vlu (2, s, x)) m = u2 m 32 s 2 := by simp only [B_M_arrive, B_M_arrive_27, e1, y2, n21, hxs, hxc, m44, hs, eq_self, one0, if_true, if_false, not_true_eq_false, not_false_eq_true, true_implies, false_implies, implies_true, and_true, true_and]
      rw [eV, eM]
      have nC := jN0.pop0 (mp' := mp 0) (fun j h1 _ h => h)
      exact ⟨n, own, blk, ep, ug ft s 2, sc, lk, gr, mp, un, ug q 1 tl, wt, wx, lg, us, pv, r1, jT', jG, nC, nB, jQ0, jQt, jR0, jR1, jW, jC, fun r => absurd r hlk, jE⟩
    · have r2 := r_mapclr_0 r1 o2
      have nC := jN0.pop0 (mp' := fun k => mp 0 k && !decide (k = blk s)) (fun j _ h2 h3 => by simp [h2, h3])
      have hI1 : Inv (t + 1) n own blk ep (ug ft s 2) sc lk gr (ug mp 0 (fun k => mp 0 k && !decide (k = blk s))) un (ug q 1 tl) wt wx pv := ⟨jT', jG, nC, nB, jQ0, jQt, jR0, jR1, jW, jC, fun r => absurd r hlk, jE⟩
      have hroom := Inv_room_0 hI1 hs
      obtain ⟨hE1, hE2⟩ := r_endif_0 fz hz hn (fun w h1 h2 => ⟨(jT'.2 w h1 h2).1, (jT'.2 w h1 h2).2.2.2⟩) r2 hroom
      have hx64 : ix (nI (32 * 0 + blk s)) = 32 * 0 + blk s := nI_clamp (by omega)
      have hv64 : vp_in (nI (32 * 0 + blk s)) 64 := vp_in_nI (by omega) (by decide)
      by_cases hE : ∀ j, j < 32 → ug mp 0 (fun k => mp 0 k && !decide (k = blk s)) 0 j = false
      · obtain ⟨w1, w2, w3, w4⟩ := hE1 hE
        refine ⟨by simp only [P_V_arrive, P_V_takeAck, P_V_takeAck_10, P_V_takeFromMap, P_V_takeFromMap_14, e1, y2, n21, hxs, hvs, q12, hs, v23, w1, w2, eq_self, one0, if_true, if_false, not_true_eq_false, not_false_eq_true, true_implies, false_implies, implies_true, and_true, true_and], by simp only [P_M_arrive, P_M_arrive_27, P_M_arrive_53, e1, y2, n21, hxs, hvs, hxc, hvc, m44, hs, m29, x32, hx64, hv64, w3, eq_self, one0, if_true, if_false, not_true_eq_false, not_false_eq_true, true_implies, false_implies, implies_true, and_true, true_and], ?_⟩
        simp only [B_V_arrive, B_V_takeAck, B_V_takeAck_10, B_V_takeFromMap, B_V_takeFromMap_14, B_M_arrive, B_M_arrive_27, B_M_arrive_53, e1, y2, n21, hxs, hxc, q12, m44, hs, v23, m29, x32, hx64, w1, eq_self, one0, if_true, if_false, not_true_eq_false, not_false_eq_true, true_implies, false_implies, implies_true, and_true, true_and]
        exact ⟨_, _, _, _, _, _, _, _, _, _, _, _, _, lg, us, _, w4, Inv_end_0 hI1 hs hE hlk⟩
      · obtain ⟨w1, w2, w3⟩ := hE2 hE
        refine ⟨by simp only [P_V_arrive, P_V_takeAck, P_V_takeAck_10, P_V_takeFromMap, P_V_takeFromMap_14, e1, y2, n21, hxs, hvs, q12, hs, v23, w1, eq_self, one0, if_true, if_false, not_true_eq_false, not_false_eq_true, true_implies, false_implies, implies_true, and_true, true_and], by simp only [P_M_arrive, P_M_arrive_27, P_M_arrive_53, e1, y2, n21, hxs, hvs, hxc, hvc, m44, hs, m29, x32, hx64, hv64, w2, eq_self, one0, if_true, if_false, not_true_eq_false, not_false_eq_true, true_implies, false_implies, implies_true, and_true, true_and], ?_⟩
        simp only [B_V_arrive, B_V_takeAck, B_V_takeAck_10, B_V_takeFromMap, B_V_takeFromMap_14, B_M_arrive, B_M_arrive_27, B_M_arrive_53, e1, y2, n21, hxs, hxc, q12, m44, hs, v23, m29, x32, hx64, w1, w3, eq_self, one0, if_true, if_false, not_true_eq_false, not_false_eq_true, true_implies, false_implies, implies_true, and_true, true_and]
        exact ⟨_, _, _, _, _, _, _, _, _, _, _, _, _, lg, us, _, r2, hI1⟩
  · have e1 : sbj (3, s, x) = nI s := rfl
    have e2 : vlu (3, s, x) = x := rfl
    have ef : fwd ((3, s, x) :: tl) = (1, s) :: fwd tl := rfl
    have eb : bck ((3, s, x) :: tl) = bck tl := rfl
    have hmem : (1, s) ∈ PL (q 0) (wt 0) ((3, s, x) :: tl) := List.mem_append_right _ (List.mem_append_right _ (by rw [ef]; exact List.mem_cons_self))
    obtain ⟨g1, g2, g3⟩ := iN1.2.2.2.1 s hmem
    have hxs : ix (nI s) = s := nI_clamp (by omega)
    have hvs : vp_in (nI s) 32 := vp_in_nI (by omega) (by decide)
    have hx64 : ix (nI (32 * 0 + s)) = 32 * 0 + s := nI_clamp (by omega)
    have hv64 : vp_in (nI (32 * 0 + s)) 64 := vp_in_nI (by omega) (by decide)
    have y3 : nI 3 = (3 : Int32) := li3.symm
    have n31 : ¬ (3 : Int32) = 1 := by decide
    have n32 : ¬ (3 : Int32) = 2 := by decide
    have r1 := r_disk_0 hR g1 x
    have hroom : (q 0).length < 25 := by
      have h1 := iN1.both
      have h2 := iN0.both
      rw [ef, List.length_cons] at h1
      exact qroom iQ0 (by omega)
    obtain ⟨p1, p2, r2⟩ := r_send_0 fz r1 hroom (4, s, 0) (k := 4) (s := nI s) (x := 0) (k2 := 4) (s2 := nI s) (x2 := 0) li4 rfl rfl li4 rfl rfl
    refine ⟨by simp only [P_V_arrive, P_V_arrive_64, e1, e2, y3, n31, n32, hxs, hvs, p1, eq_self, one0, if_true, if_false, not_true_eq_false, not_false_eq_true, true_implies, false_implies, implies_true, and_true, true_and], by simp only [P_M_arrive, P_M_arrive_79, e1, e2, y3, n31, n32, x32, hx64, hv64, p2, eq_self, one0, if_true, if_false, not_true_eq_false, not_false_eq_true, true_implies, false_implies, implies_true, and_true, true_and], ?_⟩
    simp only [B_V_arrive, B_V_arrive_64, B_M_arrive, B_M_arrive_79, e1, e2, y3, n31, n32, hxs, x32, hx64, eq_self, one0, if_true, if_false, not_true_eq_false, not_false_eq_true, true_implies, false_implies, implies_true, and_true, true_and]
    have eb4 : bck (q 0 ++ [(4, s, 0)]) = bck (q 0) ++ [(1, s)] := bck_app _ _
    have ef4 : fwd (q 0 ++ [(4, s, 0)]) = fwd (q 0) := (fwd_app _ _).trans (List.append_nil _)
    have ed4 : dat (q 0 ++ [(4, s, 0)]) = dat (q 0) := (dat_app _ _).trans (List.append_nil _)
    have nB : IN n own blk ft 1 (sc 12 1) (mp 1) (un 1) (PL (q 0 ++ [(4, s, 0)]) (wt 0) tl) := by
      have hp := jN1
      unfold PL at hp ⊢
      rw [ef] at hp
      rw [eb4]
      exact hp.perm copy_perm (copy_order hp.2.2.2.2.1)
    have nC : IN n own blk ft 0 (sc 12 0) (mp 0) (un 0) (PL tl (wt 1) (q 0 ++ [(4, s, 0)])) := by
      have hp := jN0
      unfold PL at hp ⊢
      rw [ef4]
      exact hp
    have nR : IR (wt 1) (q 0 ++ [(4, s, 0)]) := by
      unfold IR
      rw [ed4]
      exact jR0
    exact ⟨_, _, _, _, _, _, _, _, _, _, _, _, _, lg, us, _, r2, jT, jG, nC, nB, jQ0.snoc (show 1 ≤ 4 by decide) (show 4 < 5 by decide), jQt, nR, jR1, jW, jC, fun r => absurd r hlk, jE⟩
  · have e1 : sbj (4, s, x) = nI s := rfl
    have ePL : PL ((4, s, x) :: tl) (wt 1) (q 0) = (1, s) :: PL tl (wt 1) (q 0) := rfl
    rw [ePL] at iN0 jN0
    obtain ⟨g1, g2, g3⟩ := iN0.2.2.2.1 s List.mem_cons_self
    have hxs : ix (nI s) = s := nI_clamp (by omega)
    have hx64 : ix (nI (32 * 0 + s)) = 32 * 0 + s := nI_clamp (by omega)
    have hv64 : vp_in (nI (32 * 0 + s)) 64 := vp_in_nI (by omega) (by decide)
    have y4 : nI 4 = (4 : Int32) := li4.symm
    have n41 : ¬ (4 : Int32) = 1 := by decide
    have n42 : ¬ (4 : Int32) = 2 := by decide
    have n43 : ¬ (4 : Int32) = 3 := by decide
    have r2 := r_mapclr_0 (r_un_0 hR (v 1 14 &&& (((1 : Int32) <<< (nI s &&& 31)) ^^^ (-1 : Int32)))) g1
    have nC : IN n own blk ft 0 (sc 12 0) (fun k => mp 0 k && !decide (k = s)) (bt (v 1 14 &&& (((1 : Int32) <<< (nI s &&& 31)) ^^^ (-1 : Int32)))) (PL tl (wt 1) (q 0)) := (jN0.pop1 (mp' := fun k => mp 0 k && !decide (k = s)) (fun j h1 h2 => by simp [h1, h2])).congrU (fun j hj => by rw [bt_clr _ g1 hj, hU0 j hj]) (fun _ _ => rfl)
    have hI1 : Inv (t + 1) n own blk ep ft sc lk gr (ug mp 0 (fun k => mp 0 k && !decide (k = s))) (ug un 0 (bt (v 1 14 &&& (((1 : Int32) <<< (nI s &&& 31)) ^^^ (-1 : Int32))))) (ug q 1 tl) wt wx pv := ⟨jT, jG, nC, jN1, jQ0, jQt, jR0, jR1, jW, jC, fun r => absurd r hlk, jE⟩
    have hroom := Inv_room_0 hI1 g3
    obtain ⟨hE1, hE2⟩ := r_endif_0 fz hz hn (fun w h1 h2 => ⟨(jT.2 w h1 h2).1, (jT.2 w h1 h2).2.2.2⟩) r2 hroom
    by_cases hE : ∀ j, j < 32 → ug mp 0 (fun k => mp 0 k && !decide (k = s)) 0 j = false
    · obtain ⟨w1, w2, w3, w4⟩ := hE1 hE
      refine ⟨by simp only [P_V_arrive, P_V_arrive_91, P_V_takeFromMap, P_V_takeFromMap_14, e1, y4, n41, n42, n43, w1, w2, eq_self, one0, if_true, if_false, not_true_eq_false, not_false_eq_true, true_implies, false_implies, implies_true, and_true, true_and], by simp only [P_M_arrive, P_M_arrive_107, e1, y4, n41, n42, n43, x32, hx64, hv64, w3, eq_self, one0, if_true, if_false, not_true_eq_false, not_false_eq_true, true_implies, false_implies, implies_true, and_true, true_and], ?_⟩
      simp only [B_V_arrive, B_V_arrive_91, B_V_takeFromMap, B_V_takeFromMap_14, B_M_arrive, B_M_arrive_107, e1, y4, n41, n42, n43, x32, hx64, w1, eq_self, one0, if_true, if_false, not_true_eq_false, not_false_eq_true, true_implies, false_implies, implies_true, and_true, true_and]
      exact ⟨_, _, _, _, _, _, _, _, _, _, _, _, _, lg, us, _, w4, Inv_end_0 hI1 g3 hE hlk⟩
    · obtain ⟨w1, w2, w3⟩ := hE2 hE
      refine ⟨by simp only [P_V_arrive, P_V_arrive_91, P_V_takeFromMap, P_V_takeFromMap_14, e1, y4, n41, n42, n43, w1, eq_self, one0, if_true, if_false, not_true_eq_false, not_false_eq_true, true_implies, false_implies, implies_true, and_true, true_and], by simp only [P_M_arrive, P_M_arrive_107, e1, y4, n41, n42, n43, x32, hx64, hv64, w2, eq_self, one0, if_true, if_false, not_true_eq_false, not_false_eq_true, true_implies, false_implies, implies_true, and_true, true_and], ?_⟩
      simp only [B_V_arrive, B_V_arrive_91, B_V_takeFromMap, B_V_takeFromMap_14, B_M_arrive, B_M_arrive_107, e1, y4, n41, n42, n43, x32, hx64, w1, w3, eq_self, one0, if_true, if_false, not_true_eq_false, not_false_eq_true, true_implies, false_implies, implies_true, and_true, true_and]
      exact ⟨_, _, _, _, _, _, _, _, _, _, _, _, _, lg, us, _, r2, hI1⟩
  · have e1 : sbj (5, s, x) = x := rfl
    obtain ⟨hx0, z0, z1⟩ := iQ1.2.1 (5, s, x) List.mem_cons_self rfl
    have y5 : nI 5 = (5 : Int32) := li5.symm
    have n51 : ¬ (5 : Int32) = 1 := by decide
    have n52 : ¬ (5 : Int32) = 2 := by decide
    have n53 : ¬ (5 : Int32) = 3 := by decide
    have n54 : ¬ (5 : Int32) = 4 := by decide
    have r1 := r_set_7_0 (r_set_6_0 (r_mapall_0 (X := 0) (f := fun _ => 0) (r_set_9_0 (r_set_8_0 (r_set_13_0 hR 0) 0) 0) (fun j _ => by rw [b_0]; rfl)) x) 0
    have cm := cv_finish fz hz (b := 0) (by decide) x (u2 (u2 (u2 m 45 0 0) 40 0 0) 41 0 0)
    refine ⟨by simp only [P_V_arrive, P_N_takeFinish, e1, y5, n51, n52, n53, n54, eq_self, one0, if_true, if_false, not_true_eq_false, not_false_eq_true, true_implies, false_implies, implies_true, and_true, true_and], by simp only [P_M_arrive, e1, y5, n51, n52, n53, n54, hxc, hvc, cm, eq_self, one0, if_true, if_false, not_true_eq_false, not_false_eq_true, true_implies, false_implies, implies_true, and_true, true_and], ?_⟩
    simp only [B_V_arrive, B_N_takeFinish, B_M_arrive, e1, y5, n51, n52, n53, n54, hxc, cm, eq_self, one0, if_true, if_false, not_true_eq_false, not_false_eq_true, true_implies, false_implies, implies_true, and_true, true_and]
    obtain ⟨c1, c2, c3, c4, c5, c6, c7, c8⟩ := jC
    have nC : IN n own blk ft 0 (sc 12 0) (bt 0) (un 0) (PL tl (wt 1) (q 0)) := jN0.marks (fun j hj => absurd z0 (jN0.2.2.2.1 j hj).2.2)
    refine ⟨_, _, _, _, _, _, _, _, _, _, _, _, _, lg, us, _, r1, jT, jG, nC, jN1, jQ0, jQt, jR0, jR1, jW, ?_, fun r => absurd r hlk, jE⟩
    exact ⟨fun r => absurd r hx0, c2, fun r => r.1 rfl, fun _ => rfl, c5, c6, Or.inl rfl, c8⟩
theorem S_deliver (fz : Nat) (hz : 400 ≤ fz) {t : Nat} (ht : t ≤ 600) {v m : HH} (hJ : J2 t v m) (x : Int32) : P_V_deliver fz x v ∧ P_M_deliver fz x m ∧ RS t (B_V_deliver fz x v) (B_M_deliver fz x m) := by
  rcases ndc x with ⟨h0, h1⟩ | rfl | rfl
  · have eV : B_V_deliver fz x v = (0, v) := by simp only [B_V_deliver, vN_n fz v h0 h1, eq_self, one0, if_true, if_false, not_true_eq_false, not_false_eq_true, true_implies, false_implies, implies_true, and_true, true_and]
    have eM : B_M_deliver fz x m = (0, m) := by simp only [B_M_deliver, mN_n fz m h0 h1, eq_self, one0, if_true, if_false, not_true_eq_false, not_false_eq_true, true_implies, false_implies, implies_true, and_true, true_and]
    refine ⟨by simp only [P_V_deliver, pT_isNode, vN_n fz v h0 h1, eq_self, one0, if_true, if_false, not_true_eq_false, not_false_eq_true, true_implies, false_implies, implies_true, and_true, true_and], by simp only [P_M_deliver, pT_isNodeM, mN_n fz m h0 h1, eq_self, one0, if_true, if_false, not_true_eq_false, not_false_eq_true, true_implies, false_implies, implies_true, and_true, true_and], ?_⟩
    rw [eV, eM]
    exact RS.same hJ _
  · have hJ0 := hJ
    obtain ⟨n, own, blk, ep, ft, sc, lk, gr, mp, un, q, wt, wx, lg, us, pv, hR, hI⟩ := hJ
    have hR' := hR
    obtain ⟨hL, hT, hX, hS0, hM0, hD0, hR0, hA0, hW0, hG0, hU0, hE0, hS1, hM1, hD1, hR1, hA1, hW1, hG1, hU1, hE1⟩ := hR'
    have hI' := hI
    obtain ⟨iT, iG, iN0, iN1, iQ0, iQ1, iR0, iR1, iW, iC, iK, iE⟩ := hI'
    obtain ⟨s0a, s1a, s2a, s3a, s4a, s5a, s6a, s7a, s8a, s9a, s10a, s11a, s12a, s13a, s14a, s15a, s16a⟩ := hS0
    obtain ⟨s0b, s1b, s2b, s3b, s4b, s5b, s6b, s7b, s8b, s9b, s10b, s11b, s12b, s13b, s14b, s15b, s16b⟩ := hS1
    obtain ⟨l1, l2, l3, l4⟩ := hL
    obtain ⟨g, g1, g2, g3, g4, g5⟩ := hR0
    have g4' : v (1 + 4) 4 = nI (q 0).length := g4
    cases hq : q 0 with
    | nil =>
      have a1 : v (1 + 4) 4 = 0 := by rw [g4', hq]; exact li0.symm
      have a2 : m 51 0 = 0 := by rw [hA0.1, hq]; exact li0.symm
      have eV : B_V_deliver fz (nI 0) v = (0, v) := by simp only [B_V_deliver, vN_0, mN_0, nO_0, pO_0, ixb_0, vpb_0, om_0, ixb_1, vpb_1, a1, a2, eq_self, one0, if_true, if_false, not_true_eq_false, not_false_eq_true, true_implies, false_implies, implies_true, and_true, true_and]
      have eM : B_M_deliver fz (nI 0) m = (0, m) := by simp only [B_M_deliver, vN_0, mN_0, nO_0, pO_0, ixb_0, vpb_0, om_0, ixb_1, vpb_1, a1, a2, eq_self, one0, if_true, if_false, not_true_eq_false, not_false_eq_true, true_implies, false_implies, implies_true, and_true, true_and]
      refine ⟨by simp only [P_V_deliver, pT_isNode, pT_nodeOf, pT_peerOf, vN_0, mN_0, nO_0, pO_0, ixb_0, vpb_0, om_0, ixb_1, vpb_1, a1, a2, eq_self, one0, if_true, if_false, not_true_eq_false, not_false_eq_true, true_implies, false_implies, implies_true, and_true, true_and], by simp only [P_M_deliver, pT_isNodeM, vN_0, mN_0, nO_0, pO_0, ixb_0, vpb_0, om_0, ixb_1, vpb_1, a1, a2, eq_self, one0, if_true, if_false, not_true_eq_false, not_false_eq_true, true_implies, false_implies, implies_true, and_true, true_and], ?_⟩
      rw [eV, eM]
      exact RS.same hJ0 _
    | cons a tl =>
      obtain ⟨d1, ⟨d2, d3, d4, d5⟩, ⟨d6, d7, d8⟩, ⟨d9, d10⟩, ⟨d11, d12, d13⟩, r⟩ := r_drop_0 fz hR hq
      obtain ⟨p1, p2, hJ'⟩ := arr_0 fz hz ht hI hq r
      have a1 : ¬ v (1 + 4) 4 = 0 := by
        have d9' : v (1 + 4) 4 = nI (tl.length + 1) := d9
        rw [d9']
        exact nI_ne0 (by omega) (by omega)
      have a2 : ¬ nI (tl.length + 1) = 0 := nI_ne0 (by omega) (by omega)
      have hx64 : ix (nI (64 * 0)) = 64 * 0 := nI_clamp (by decide)
      have hv64 : vp_in (nI (64 * 0)) 128 := vp_in_nI (by decide) (by decide)
      have cm := cf_deliver fz (b := 0) (by decide) (c := tl.length) (by omega) (nI a.1) (sbj a) (vlu a) tl.length fz 0 (u2 m 51 0 (nI tl.length)) (by omega) (by omega) rfl p2
      have eV : B_V_deliver fz (nI 0) v = (nI a.1, B_V_arrive fz 11 (nI a.1) (sbj a) (vlu a) (B_O_dropFirst fz 1 v)) := by simp only [B_V_deliver, B_V_deliver_48, vN_0, mN_0, nO_0, pO_0, ixb_0, vpb_0, om_0, ixb_1, vpb_1, a1, d6, d7, d8, eq_self, one0, if_true, if_false, not_true_eq_false, not_false_eq_true, true_implies, false_implies, implies_true, and_true, true_and]
      have eM : B_M_deliver fz (nI 0) m = (nI a.1, B_M_arrive fz (nI 1) (nI a.1) (sbj a) (vlu a) (sh3 (64 * 0) (64 * 0 + tl.length) (u2 m 51 0 (nI tl.length)))) := by
        simp only [B_M_deliver, B_M_deliver_56, vN_0, mN_0, nO_0, pO_0, ixb_0, vpb_0, om_0, ixb_1, vpb_1, d10, a2, x64', hx64, d11, d12, d13, nI_pred, eq_self, one0, if_true, if_false, not_true_eq_false, not_false_eq_true, true_implies, false_implies, implies_true, and_true, true_and]
        exact cm.2
      have pM : P_M_deliver fz (nI 0) m := by
        simp only [P_M_deliver, P_M_deliver_56, pT_isNodeM, vN_0, mN_0, nO_0, pO_0, ixb_0, vpb_0, om_0, ixb_1, vpb_1, d10, a2, x64', hx64, hv64, d11, d12, d13, nI_pred, eq_self, one0, if_true, if_false, not_true_eq_false, not_false_eq_true, true_implies, false_implies, implies_true, and_true, true_and]
        exact cm.1
      refine ⟨by simp only [P_V_deliver, P_V_deliver_48, pT_isNode, pT_nodeOf, pT_peerOf, vN_0, mN_0, nO_0, pO_0, ixb_0, vpb_0, om_0, ixb_1, vpb_1, a1, d2, d3, d4, d5, d6, d7, d8, p1, eq_self, one0, if_true, if_false, not_true_eq_false, not_false_eq_true, true_implies, false_implies, implies_true, and_true, true_and], pM, ?_⟩
      rw [eV, eM]
      exact ⟨rfl, hJ'⟩
  · have hJ0 := hJ
    obtain ⟨n, own, blk, ep, ft, sc, lk, gr, mp, un, q, wt, wx, lg, us, pv, hR, hI⟩ := hJ
    have hR' := hR
    obtain ⟨hL, hT, hX, hS0, hM0, hD0, hR0, hA0, hW0, hG0, hU0, hE0, hS1, hM1, hD1, hR1, hA1, hW1, hG1, hU1, hE1⟩ := hR'
    have hI' := hI
    obtain ⟨iT, iG, iN0, iN1, iQ0, iQ1, iR0, iR1, iW, iC, iK, iE⟩ := hI'
    obtain ⟨s0a, s1a, s2a, s3a, s4a, s5a, s6a, s7a, s8a, s9a, s10a, s11a, s12a, s13a, s14a, s15a, s16a⟩ := hS0
    obtain ⟨s0b, s1b, s2b, s3b, s4b, s5b, s6b, s7b, s8b, s9b, s10b, s11b, s12b, s13b, s14b, s15b, s16b⟩ := hS1
    obtain ⟨l1, l2, l3, l4⟩ := hL
    obtain ⟨g, g1, g2, g3, g4, g5⟩ := hR1
    have g4' : v (11 + 4) 4 = nI (q 1).length := g4
    cases hq : q 1 with
    | nil =>
      have a1 : v (11 + 4) 4 = 0 := by rw [g4', hq]; exact li0.symm
      have a2 : m 51 1 = 0 := by rw [hA1.1, hq]; exact li0.symm
      have eV : B_V_deliver fz (nI 1) v = (0, v) := by simp only [B_V_deliver, vN_1, mN_1, nO_1, pO_1, ixb_1, vpb_1, om_1, ixb_0, vpb_0, a1, a2, eq_self, one0, if_true, if_false, not_true_eq_false, not_false_eq_true, true_implies, false_implies, implies_true, and_true, true_and]
      have eM : B_M_deliver fz (nI 1) m = (0, m) := by simp only [B_M_deliver, vN_1, mN_1, nO_1, pO_1, ixb_1, vpb_1, om_1, ixb_0, vpb_0, a1, a2, eq_self, one0, if_true, if_false, not_true_eq_false, not_false_eq_true, true_implies, false_implies, implies_true, and_true, true_and]
      refine ⟨by simp only [P_V_deliver, pT_isNode, pT_nodeOf, pT_peerOf, vN_1, mN_1, nO_1, pO_1, ixb_1, vpb_1, om_1, ixb_0, vpb_0, a1, a2, eq_self, one0, if_true, if_false, not_true_eq_false, not_false_eq_true, true_implies, false_implies, implies_true, and_true, true_and], by simp only [P_M_deliver, pT_isNodeM, vN_1, mN_1, nO_1, pO_1, ixb_1, vpb_1, om_1, ixb_0, vpb_0, a1, a2, eq_self, one0, if_true, if_false, not_true_eq_false, not_false_eq_true, true_implies, false_implies, implies_true, and_true, true_and], ?_⟩
      rw [eV, eM]
      exact RS.same hJ0 _
    | cons a tl =>
      obtain ⟨d1, ⟨d2, d3, d4, d5⟩, ⟨d6, d7, d8⟩, ⟨d9, d10⟩, ⟨d11, d12, d13⟩, r⟩ := r_drop_1 fz hR hq
      obtain ⟨p1, p2, hJ'⟩ := arr_1 fz hz ht hI hq r
      have a1 : ¬ v (11 + 4) 4 = 0 := by
        have d9' : v (11 + 4) 4 = nI (tl.length + 1) := d9
        rw [d9']
        exact nI_ne0 (by omega) (by omega)
      have a2 : ¬ nI (tl.length + 1) = 0 := nI_ne0 (by omega) (by omega)
      have hx64 : ix (nI (64 * 1)) = 64 * 1 := nI_clamp (by decide)
      have hv64 : vp_in (nI (64 * 1)) 128 := vp_in_nI (by decide) (by decide)
      have cm := cf_deliver fz (b := 1) (by decide) (c := tl.length) (by omega) (nI a.1) (sbj a) (vlu a) tl.length fz 0 (u2 m 51 1 (nI tl.length)) (by omega) (by omega) rfl p2
      have eV : B_V_deliver fz (nI 1) v = (nI a.1, B_V_arrive fz 1 (nI a.1) (sbj a) (vlu a) (B_O_dropFirst fz 11 v)) := by simp only [B_V_deliver, B_V_deliver_48, vN_1, mN_1, nO_1, pO_1, ixb_1, vpb_1, om_1, ixb_0, vpb_0, a1, d6, d7, d8, eq_self, one0, if_true, if_false, not_true_eq_false, not_false_eq_true, true_implies, false_implies, implies_true, and_true, true_and]
      have eM : B_M_deliver fz (nI 1) m = (nI a.1, B_M_arrive fz (nI 0) (nI a.1) (sbj a) (vlu a) (sh3 (64 * 1) (64 * 1 + tl.length) (u2 m 51 1 (nI tl.length)))) := by
        simp only [B_M_deliver, B_M_deliver_56, vN_1, mN_1, nO_1, pO_1, ixb_1, vpb_1, om_1, ixb_0, vpb_0, d10, a2, x64', hx64, d11, d12, d13, nI_pred, eq_self, one0, if_true, if_false, not_true_eq_false, not_false_eq_true, true_implies, false_implies, implies_true, and_true, true_and]
        exact cm.2
      have pM : P_M_deliver fz (nI 1) m := by
        simp only [P_M_deliver, P_M_deliver_56, pT_isNodeM, vN_1, mN_1, nO_1, pO_1, ixb_1, vpb_1, om_1, ixb_0, vpb_0, d10, a2, x64', hx64, hv64, d11, d12, d13, nI_pred, eq_self, one0, if_true, if_false, not_true_eq_false, not_false_eq_true, true_implies, false_implies, implies_true, and_true, true_and]
        exact cm.1
      refine ⟨by simp only [P_V_deliver, P_V_deliver_48, pT_isNode, pT_nodeOf, pT_peerOf, vN_1, mN_1, nO_1, pO_1, ixb_1, vpb_1, om_1, ixb_0, vpb_0, a1, d2, d3, d4, d5, d6, d7, d8, p1, eq_self, one0, if_true, if_false, not_true_eq_false, not_false_eq_true, true_implies, false_implies, implies_true, and_true, true_and], pM, ?_⟩
      rw [eV, eM]
      exact ⟨rfl, hJ'⟩
end
section
theorem and_dig (s a m u v : Nat) (ha : a < 2 ^ s) (hm : m < 2 ^ s) : (2 ^ s * u + a) &&& (2 ^ s * v + m) = 2 ^ s * (u &&& v) + (a &&& m) := by
  apply Nat.eq_of_testBit_eq
  intro j
  have hb : a &&& m < 2 ^ s := Nat.and_lt_two_pow a hm
  rw [Nat.testBit_and, Nat.testBit_two_pow_mul_add u ha, Nat.testBit_two_pow_mul_add v hm, Nat.testBit_two_pow_mul_add _ hb]
  by_cases hj : j < s
  · simp [hj]
  · simp [hj]
theorem and_4 (m b0 b1 b2 b3 : Nat) (hm : m < 256) (h0 : b0 < 256) (h1 : b1 < 256) (h2 : b2 < 256) (h3 : b3 < 256) : (b0 + 256 * (b1 + 256 * (b2 + 256 * b3))) &&& (m + 256 * (m + 256 * (m + 256 * m))) = (b0 &&& m) + 256 * ((b1 &&& m) + 256 * ((b2 &&& m) + 256 * (b3 &&& m))) := by
  have e0 := and_dig 8 b0 m (b1 + 256 * (b2 + 256 * b3)) (m + 256 * (m + 256 * m)) h0 hm
  have e1 := and_dig 8 b1 m (b2 + 256 * b3) (m + 256 * m) h1 hm
  have e2 := and_dig 8 b2 m b3 m h2 hm
  have c : (2 : Nat) ^ 8 = 256 := by decide
  rw [c] at e0 e1 e2
  rw [Nat.add_comm b0, Nat.add_comm m, e0, Nat.add_comm b1 (256 * (b2 + 256 * b3)), Nat.add_comm m (256 * (m + 256 * m)), e1, Nat.add_comm b2 (256 * b3), Nat.add_comm m (256 * m), e2]
  omega
def bc1 (b : Nat) : Nat := b - ((b / 2) &&& 85)
def bc2 (b : Nat) : Nat := (b &&& 51) + ((b / 4) &&& 51)
def bc3 (b : Nat) : Nat := (b + b / 16) % 16
def ones8 (b : Nat) : Nat := b % 2 + b / 2 % 2 + b / 4 % 2 + b / 8 % 2 + b / 16 % 2 + b / 32 % 2 + b / 64 % 2 + b / 128 % 2
theorem bc_ones : ∀ b, b < 256 → bc3 (bc2 (bc1 b)) = ones8 b ∧ (b / 2 &&& 85) ≤ b ∧ bc1 b < 256 ∧ bc2 (bc1 b) ≤ 68 ∧ ones8 b ≤ 8 ∧ (bc1 b &&& 51) ≤ 51 ∧ (bc1 b / 4 &&& 51) ≤ 51 ∧ bc2 (bc1 b) % 16 ≤ 4 := by decide +kernel
theorem bc_hi1 : ∀ b, b < 128 → ∀ e, e < 2 → (b + 128 * e) &&& 85 = b &&& 85 := by decide +kernel
theorem bc_hi2 : ∀ b, b < 64 → ∀ e, e < 4 → (b + 64 * e) &&& 51 = b &&& 51 := by decide +kernel
theorem bc_hi3 : ∀ b, b < 256 → b &&& 15 = b % 16 := by decide +kernel
def TN (x : Int32) : Nat := x.toBitVec.toNat
theorem TN_lt (x : Int32) : TN x < 4294967296 := x.toBitVec.isLt
theorem TN_and (x y : Int32) : TN (x &&& y) = TN x &&& TN y := by unfold TN; rw [Int32.toBitVec_and, BitVec.toNat_and]
theorem TN_add (x y : Int32) : TN (x + y) = (TN x + TN y) % 4294967296 := by unfold TN; rw [Int32.toBitVec_add, BitVec.toNat_add]
theorem TN_sub (x y : Int32) : TN (x - y) = (4294967296 - TN y + TN x) % 4294967296 := by unfold TN; rw [Int32.toBitVec_sub, BitVec.toNat_sub]
theorem TN_sh (x s : Int32) (k : Nat) (hs : ((s.toUInt32 &&& Int32.toUInt32 31).toBitVec % 32).toNat = k) : TN ((x.toUInt32 >>> (s.toUInt32 &&& Int32.toUInt32 31)).toInt32) = TN x / 2 ^ k := pk_ushr x s k hs
def bcA (x : Int32) : Int32 := x - ((x.toUInt32 >>> ((1 : Int32).toUInt32 &&& Int32.toUInt32 31)).toInt32 &&& (1431655765 : Int32))
def bcB (x : Int32) : Int32 := (x &&& (858993459 : Int32)) + ((x.toUInt32 >>> ((2 : Int32).toUInt32 &&& Int32.toUInt32 31)).toInt32 &&& (858993459 : Int32))
def bcC (x : Int32) : Int32 := (x + (x.toUInt32 >>> ((4 : Int32).toUInt32 &&& Int32.toUInt32 31)).toInt32) &&& (252645135 : Int32)
def bcD (x : Int32) : Int32 := x + (x.toUInt32 >>> ((8 : Int32).toUInt32 &&& Int32.toUInt32 31)).toInt32
def bcE (x : Int32) : Int32 := x + (x.toUInt32 >>> ((16 : Int32).toUInt32 &&& Int32.toUInt32 31)).toInt32
theorem bit_steps (fz : Nat) (x : Int32) (h : HH) : B_I_bitCount fz x h = bcE (bcD (bcC (bcB (bcA x)))) &&& (63 : Int32) := rfl
theorem bcA_T (x : Int32) (b0 b1 b2 b3 : Nat) (h0 : b0 < 256) (h1 : b1 < 256) (h2 : b2 < 256) (h3 : b3 < 256) (h : TN x = b0 + 256 * (b1 + 256 * (b2 + 256 * b3))) : TN (bcA x) = bc1 b0 + 256 * (bc1 b1 + 256 * (bc1 b2 + 256 * bc1 b3)) := by
  have e1 : TN ((x.toUInt32 >>> ((1 : Int32).toUInt32 &&& Int32.toUInt32 31)).toInt32) = (b0 / 2 + 128 * (b1 % 2)) + 256 * ((b1 / 2 + 128 * (b2 % 2)) + 256 * ((b2 / 2 + 128 * (b3 % 2)) + 256 * (b3 / 2))) := by
    rw [TN_sh x 1 1 (by decide +kernel), h]
    omega
  have em : TN (1431655765 : Int32) = 85 + 256 * (85 + 256 * (85 + 256 * 85)) := by decide +kernel
  have ea : TN ((x.toUInt32 >>> ((1 : Int32).toUInt32 &&& Int32.toUInt32 31)).toInt32 &&& (1431655765 : Int32)) = (b0 / 2 &&& 85) + 256 * ((b1 / 2 &&& 85) + 256 * ((b2 / 2 &&& 85) + 256 * (b3 / 2 &&& 85))) := by
    rw [TN_and, e1, em, and_4 85 _ _ _ _ (by decide) (by omega) (by omega) (by omega) (by omega), bc_hi1 (b0 / 2) (by omega) (b1 % 2) (by omega), bc_hi1 (b1 / 2) (by omega) (b2 % 2) (by omega), bc_hi1 (b2 / 2) (by omega) (b3 % 2) (by omega)]
  have g0 := (bc_ones b0 h0).2.1
  have g1 := (bc_ones b1 h1).2.1
  have g2 := (bc_ones b2 h2).2.1
  have g3 := (bc_ones b3 h3).2.1
  unfold bcA bc1
  rw [TN_sub, ea, h]
  omega
theorem bcB_T (x : Int32) (b0 b1 b2 b3 : Nat) (h0 : b0 < 256) (h1 : b1 < 256) (h2 : b2 < 256) (h3 : b3 < 256) (h : TN x = b0 + 256 * (b1 + 256 * (b2 + 256 * b3))) (k0 : (b0 &&& 51) ≤ 51 ∧ (b0 / 4 &&& 51) ≤ 51) (k1 : (b1 &&& 51) ≤ 51 ∧ (b1 / 4 &&& 51) ≤ 51) (k2 : (b2 &&& 51) ≤ 51 ∧ (b2 / 4 &&& 51) ≤ 51) (k3 : (b3 &&& 51) ≤ 51 ∧ (b3 / 4 &&& 51) ≤ 51) : TN (bcB x) = bc2 b0 + 256 * (bc2 b1 + 256 * (bc2 b2 + 256 * bc2 b3)) := by
  have e1 : TN ((x.toUInt32 >>> ((2 : Int32).toUInt32 &&& Int32.toUInt32 31)).toInt32) = (b0 / 4 + 64 * (b1 % 4)) + 256 * ((b1 / 4 + 64 * (b2 % 4)) + 256 * ((b2 / 4 + 64 * (b3 % 4)) + 256 * (b3 / 4))) := by
    rw [TN_sh x 2 2 (by decide +kernel), h]
    omega
  have em : TN (858993459 : Int32) = 51 + 256 * (51 + 256 * (51 + 256 * 51)) := by decide +kernel
  have ea : TN ((x.toUInt32 >>> ((2 : Int32).toUInt32 &&& Int32.toUInt32 31)).toInt32 &&& (858993459 : Int32)) = (b0 / 4 &&& 51) + 256 * ((b1 / 4 &&& 51) + 256 * ((b2 / 4 &&& 51) + 256 * (b3 / 4 &&& 51))) := by
    rw [TN_and, e1, em, and_4 51 _ _ _ _ (by decide) (by omega) (by omega) (by omega) (by omega), bc_hi2 (b0 / 4) (by omega) (b1 % 4) (by omega), bc_hi2 (b1 / 4) (by omega) (b2 % 4) (by omega), bc_hi2 (b2 / 4) (by omega) (b3 % 4) (by omega)]
  have eb : TN (x &&& (858993459 : Int32)) = (b0 &&& 51) + 256 * ((b1 &&& 51) + 256 * ((b2 &&& 51) + 256 * (b3 &&& 51))) := by
    rw [TN_and, h, em, and_4 51 _ _ _ _ (by decide) h0 h1 h2 h3]
  unfold bcB bc2
  rw [TN_add, ea, eb]
  omega
theorem bcC_T (x : Int32) (b0 b1 b2 b3 : Nat) (h : TN x = b0 + 256 * (b1 + 256 * (b2 + 256 * b3))) (k0 : b0 ≤ 68 ∧ b0 % 16 ≤ 4) (k1 : b1 ≤ 68 ∧ b1 % 16 ≤ 4) (k2 : b2 ≤ 68 ∧ b2 % 16 ≤ 4) (k3 : b3 ≤ 68 ∧ b3 % 16 ≤ 4) : TN (bcC x) = bc3 b0 + 256 * (bc3 b1 + 256 * (bc3 b2 + 256 * bc3 b3)) := by
  have e1 : TN (x + (x.toUInt32 >>> ((4 : Int32).toUInt32 &&& Int32.toUInt32 31)).toInt32) = (b0 + b0 / 16 + 16 * (b1 % 16)) + 256 * ((b1 + b1 / 16 + 16 * (b2 % 16)) + 256 * ((b2 + b2 / 16 + 16 * (b3 % 16)) + 256 * (b3 + b3 / 16))) := by
    rw [TN_add, TN_sh x 4 4 (by decide +kernel), h]
    omega
  have em : TN (252645135 : Int32) = 15 + 256 * (15 + 256 * (15 + 256 * 15)) := by decide +kernel
  unfold bcC bc3
  rw [TN_and, e1, em, and_4 15 _ _ _ _ (by decide) (by omega) (by omega) (by omega) (by omega), bc_hi3 _ (by omega), bc_hi3 _ (by omega), bc_hi3 _ (by omega), bc_hi3 _ (by omega)]
  omega
theorem bt_nat (x : Int32) (j : Nat) : bt x j = decide (TN x / 2 ^ j % 2 = 1) := by
  unfold bt TN BitVec.getLsbD
  exact Nat.testBit_eq_decide_div_mod_eq
theorem cond_dec (a : Nat) : cond (decide (a % 2 = 1)) 1 0 = a % 2 := by
  rcases (show a % 2 = 0 ∨ a % 2 = 1 by omega) with h | h <;> rw [h] <;> rfl
theorem cn_add (p : Nat → Bool) : ∀ k l a, cn p a (k + l) = cn p a k + cn p (a + k) l
  | 0, l, a => by rw [Nat.zero_add, cn, Nat.zero_add, Nat.add_zero]
  | k + 1, l, a => by
    rw [show k + 1 + l = (k + l) + 1 by omega, cn, cn, cn_add p k l (a + 1), show a + 1 + k = a + (k + 1) by omega]
    omega
theorem cn_sh (p : Nat → Bool) (s : Nat) : ∀ k a, cn p (s + a) k = cn (fun j => p (s + j)) a k
  | 0, a => rfl
  | k + 1, a => by rw [cn, cn, Nat.add_assoc, cn_sh p s k (a + 1)]
def tb (N : Nat) : Nat → Bool := fun j => decide (N / 2 ^ j % 2 = 1)
theorem ones_8 (N : Nat) : cn (tb N) 0 8 = ones8 (N % 256) := by
  have e0 : N % 2 = (N % 256) % 2 := by omega
  have e1 : N / 2 % 2 = (N % 256) / 2 % 2 := by omega
  have e2 : N / 4 % 2 = (N % 256) / 4 % 2 := by omega
  have e3 : N / 8 % 2 = (N % 256) / 8 % 2 := by omega
  have e4 : N / 16 % 2 = (N % 256) / 16 % 2 := by omega
  have e5 : N / 32 % 2 = (N % 256) / 32 % 2 := by omega
  have e6 : N / 64 % 2 = (N % 256) / 64 % 2 := by omega
  have e7 : N / 128 % 2 = (N % 256) / 128 % 2 := by omega
  unfold ones8
  rw [← e0, ← e1, ← e2, ← e3, ← e4, ← e5, ← e6, ← e7]
  simp only [cn, tb, cond_dec]
  have p0 : (2 : Nat) ^ 0 = 1 := rfl
  have p1 : (2 : Nat) ^ (0 + 1) = 2 := rfl
  have p2 : (2 : Nat) ^ (0 + 1 + 1) = 4 := rfl
  have p3 : (2 : Nat) ^ (0 + 1 + 1 + 1) = 8 := rfl
  have p4 : (2 : Nat) ^ (0 + 1 + 1 + 1 + 1) = 16 := rfl
  have p5 : (2 : Nat) ^ (0 + 1 + 1 + 1 + 1 + 1) = 32 := rfl
  have p6 : (2 : Nat) ^ (0 + 1 + 1 + 1 + 1 + 1 + 1) = 64 := rfl
  have p7 : (2 : Nat) ^ (0 + 1 + 1 + 1 + 1 + 1 + 1 + 1) = 128 := rfl
  simp only [p0, p1, p2, p3, p4, p5, p6, p7, Nat.div_one]
  generalize N % 2 = a0
  generalize N / 2 % 2 = a1
  generalize N / 4 % 2 = a2
  generalize N / 8 % 2 = a3
  generalize N / 16 % 2 = a4
  generalize N / 32 % 2 = a5
  generalize N / 64 % 2 = a6
  generalize N / 128 % 2 = a7
  omega
theorem tb_8 (N j : Nat) : tb N (8 + j) = tb (N / 256) j := by
  unfold tb
  rw [Nat.pow_add, ← Nat.div_div_eq_div_mul]
theorem cn_tb (N k : Nat) : cn (tb N) 0 (8 + k) = ones8 (N % 256) + cn (tb (N / 256)) 0 k := by
  rw [cn_add, ones_8]
  have e : cn (tb N) (0 + 8) k = cn (tb (N / 256)) 0 k := by
    rw [show 0 + 8 = 8 + 0 from rfl, cn_sh]
    congr 1
    funext j
    exact tb_8 N j
  rw [e]
theorem ones_32 (N : Nat) : cn (tb N) 0 32 = ones8 (N % 256) + (ones8 (N / 256 % 256) + (ones8 (N / 256 / 256 % 256) + ones8 (N / 256 / 256 / 256 % 256))) := by
  rw [show (32 : Nat) = 8 + (8 + (8 + 8)) from rfl, cn_tb, cn_tb, cn_tb, ones_8]
theorem addE {e0 e1 e2 e3 : Nat} (h0 : e0 ≤ 8) (h1 : e1 ≤ 8) (h2 : e2 ≤ 8) (h3 : e3 ≤ 8) : ((e0 + e1) + 256 * ((e1 + e2) + 256 * ((e2 + e3) + 256 * e3)) + ((e0 + e1) + 256 * ((e1 + e2) + 256 * ((e2 + e3) + 256 * e3))) / 2 ^ 16) % 4294967296 = (e0 + e1 + (e2 + e3)) + 256 * ((e1 + e2 + e3) + 256 * ((e2 + e3) + 256 * e3)) := by
  have a : ((e0 + e1) + 256 * ((e1 + e2) + 256 * ((e2 + e3) + 256 * e3))) / 2 ^ 16 = (e2 + e3) + 256 * e3 := by
    have : (2 : Nat) ^ 16 = 65536 := by decide
    rw [this]
    omega
  rw [a, Nat.mod_eq_of_lt (by omega)]
  omega
theorem addD {e0 e1 e2 e3 : Nat} (h0 : e0 ≤ 8) (h1 : e1 ≤ 8) (h2 : e2 ≤ 8) (h3 : e3 ≤ 8) : (e0 + 256 * (e1 + 256 * (e2 + 256 * e3)) + (e0 + 256 * (e1 + 256 * (e2 + 256 * e3))) / 2 ^ 8) % 4294967296 = (e0 + e1) + 256 * ((e1 + e2) + 256 * ((e2 + e3) + 256 * e3)) := by
  have a : (e0 + 256 * (e1 + 256 * (e2 + 256 * e3))) / 2 ^ 8 = e1 + 256 * (e2 + 256 * e3) := by
    have : (2 : Nat) ^ 8 = 256 := by decide
    rw [this]
    omega
  rw [a, Nat.mod_eq_of_lt (by omega)]
  omega
theorem low6 {e0 e1 e2 e3 : Nat} (h0 : e0 ≤ 8) (h1 : e1 ≤ 8) (h2 : e2 ≤ 8) (h3 : e3 ≤ 8) : ((e0 + e1 + (e2 + e3)) + 256 * ((e1 + e2 + e3) + 256 * ((e2 + e3) + 256 * e3))) % 2 ^ 6 = e0 + e1 + (e2 + e3) := by
  have : (2 : Nat) ^ 6 = 64 := by decide
  rw [this]
  omega
theorem bytes4 {N : Nat} (h : N < 4294967296) : ∃ b0 b1 b2 b3, b0 < 256 ∧ b1 < 256 ∧ b2 < 256 ∧ b3 < 256 ∧ N = b0 + 256 * (b1 + 256 * (b2 + 256 * b3)) := ⟨N % 256, N / 256 % 256, N / 256 / 256 % 256, N / 256 / 256 / 256, by omega, by omega, by omega, by omega, by omega⟩
theorem ones_b {b0 b1 b2 b3 : Nat} (h0 : b0 < 256) (h1 : b1 < 256) (h2 : b2 < 256) (h3 : b3 < 256) : cn (tb (b0 + 256 * (b1 + 256 * (b2 + 256 * b3)))) 0 32 = ones8 b0 + ones8 b1 + (ones8 b2 + ones8 b3) := by
  have d0 : (b0 + 256 * (b1 + 256 * (b2 + 256 * b3))) % 256 = b0 := by omega
  have d1 : (b0 + 256 * (b1 + 256 * (b2 + 256 * b3))) / 256 = b1 + 256 * (b2 + 256 * b3) := by omega
  rw [ones_32, d0, d1]
  have d2 : (b1 + 256 * (b2 + 256 * b3)) % 256 = b1 := by omega
  have d3 : (b1 + 256 * (b2 + 256 * b3)) / 256 = b2 + 256 * b3 := by omega
  rw [d2, d3]
  have d4 : (b2 + 256 * b3) % 256 = b2 := by omega
  have d5 : (b2 + 256 * b3) / 256 = b3 := by omega
  rw [d4, d5, Nat.mod_eq_of_lt h3, Nat.add_assoc]
theorem bcF_T (x : Int32) (b0 b1 b2 b3 : Nat) (h0 : b0 < 256) (h1 : b1 < 256) (h2 : b2 < 256) (h3 : b3 < 256) (hb : TN x = b0 + 256 * (b1 + 256 * (b2 + 256 * b3))) : TN (bcC (bcB (bcA x))) = ones8 b0 + 256 * (ones8 b1 + 256 * (ones8 b2 + 256 * ones8 b3)) := by
  have o0 := bc_ones b0 h0
  have o1 := bc_ones b1 h1
  have o2 := bc_ones b2 h2
  have o3 := bc_ones b3 h3
  have eA := bcA_T x b0 b1 b2 b3 h0 h1 h2 h3 hb
  have eB := bcB_T (bcA x) (bc1 b0) (bc1 b1) (bc1 b2) (bc1 b3) o0.2.2.1 o1.2.2.1 o2.2.2.1 o3.2.2.1 eA ⟨o0.2.2.2.2.2.1, o0.2.2.2.2.2.2.1⟩ ⟨o1.2.2.2.2.2.1, o1.2.2.2.2.2.2.1⟩ ⟨o2.2.2.2.2.2.1, o2.2.2.2.2.2.2.1⟩ ⟨o3.2.2.2.2.2.1, o3.2.2.2.2.2.2.1⟩
  have eC := bcC_T (bcB (bcA x)) (bc2 (bc1 b0)) (bc2 (bc1 b1)) (bc2 (bc1 b2)) (bc2 (bc1 b3)) eB ⟨o0.2.2.2.1, o0.2.2.2.2.2.2.2⟩ ⟨o1.2.2.2.1, o1.2.2.2.2.2.2.2⟩ ⟨o2.2.2.2.1, o2.2.2.2.2.2.2.2⟩ ⟨o3.2.2.2.1, o3.2.2.2.2.2.2.2⟩
  rw [o0.1, o1.1, o2.1, o3.1] at eC
  exact eC
theorem bcG_T (x : Int32) (e0 e1 e2 e3 : Nat) (h0 : e0 ≤ 8) (h1 : e1 ≤ 8) (h2 : e2 ≤ 8) (h3 : e3 ≤ 8) (h : TN x = e0 + 256 * (e1 + 256 * (e2 + 256 * e3))) : bcE (bcD x) &&& (63 : Int32) = nI (e0 + e1 + (e2 + e3)) := by
  have eD : TN (bcD x) = (e0 + e1) + 256 * ((e1 + e2) + 256 * ((e2 + e3) + 256 * e3)) := by
    unfold bcD
    rw [TN_add, TN_sh _ 8 8 (by decide +kernel), h]
    exact addD h0 h1 h2 h3
  have eE : TN (bcE (bcD x)) = (e0 + e1 + (e2 + e3)) + 256 * ((e1 + e2 + e3) + 256 * ((e2 + e3) + 256 * e3)) := by
    unfold bcE
    rw [TN_add, TN_sh _ 16 16 (by decide +kernel), eD]
    exact addE h0 h1 h2 h3
  have e6 : TN (bcE (bcD x)) % 2 ^ 6 = e0 + e1 + (e2 + e3) := by
    rw [eE]
    exact low6 h0 h1 h2 h3
  have := pk_and (bcE (bcD x)) (m := 63) 6 (by decide +kernel)
  rw [this]
  exact congrArg nI e6
theorem cv_bitCount (fz : Nat) (x : Int32) (h : HH) : B_I_bitCount fz x h = nI (cn (bt x) 0 32) := by
  obtain ⟨b0, b1, b2, b3, h0, h1, h2, h3, hb⟩ := bytes4 (TN_lt x)
  have eC := bcF_T x b0 b1 b2 b3 h0 h1 h2 h3 hb
  have eG := bcG_T (bcC (bcB (bcA x))) _ _ _ _ (bc_ones b0 h0).2.2.2.2.1 (bc_ones b1 h1).2.2.2.2.1 (bc_ones b2 h2).2.2.2.2.1 (bc_ones b3 h3).2.2.2.2.1 eC
  have ef : bt x = tb (TN x) := by
    funext j
    exact bt_nat x j
  have e9 : cn (bt x) 0 32 = ones8 b0 + ones8 b1 + (ones8 b2 + ones8 b3) := by
    rw [ef, hb]
    exact ones_b h0 h1 h2 h3
  rw [e9]
  exact (bit_steps fz x h).trans eG
end
