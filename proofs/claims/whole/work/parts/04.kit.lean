abbrev HH : Type := Nat → Nat → Int32
def u2 (h : HH) (i k : Nat) (v : Int32) : HH := fun a b => if a = i ∧ b = k then v else h a b
theorem u2_s (h : HH) (i k : Nat) (v : Int32) : u2 h i k v i k = v := by simp [u2]
theorem u2_i (h : HH) {i a : Nat} (k : Nat) (v : Int32) (ha : a ≠ i) : u2 h i k v a = h a := by funext b; simp [u2, ha]
theorem u2_k (h : HH) {i k b : Nat} (v : Int32) (a : Nat) (hb : b ≠ k) : u2 h i k v a b = h a b := by simp [u2, hb]
abbrev ix (x : Int32) : Nat := x.toNatClampNeg
abbrev sh_E : Type := (Nat × Bool) ⊕ (Nat × List Nat)
def mk_f (ad : Nat → Nat) (h : HH) (i : Nat) (k : Nat) (o : Nat) : Value := match o with
  | 0 => .int (h i k)
  | 1 => .null
  | j + 2 => .ref (ad j)
def mk_v (cI cZ : ClassId) (ad : Nat → Nat) (h : HH) (i : Nat) (e : sh_E) : va_E := match e with
  | .inl a => .inl (cond a.2 cZ cI, a.1, .inl (h i))
  | .inr o => .inr (o.1, o.2.mapIdx (mk_f ad h i))
def mk_e (cI cZ : ClassId) (ad : Nat → Nat) (h : HH) (i : Nat) (e : sh_E) : Nat × va_E := (ad i, mk_v cI cZ ad h i e)
def wld (S : List sh_E) (cI cZ : ClassId) (ad : Nat → Nat) (h : HH) : va_W := S.mapIdx (mk_e cI cZ ad h)
def AdOk (base : Nat) (ad : Nat → Nat) (n : Nat) : Prop := (∀ i j, i < n → j < n → ad i = ad j → i = j) ∧ ∀ i, i < n → base ≤ ad i
section WLD
variable {S : List sh_E} {cI cZ : ClassId} {base : Nat} {ad : Nat → Nat} {h : HH}
theorem wld_at {i : Nat} {e : sh_E} (hs : S[i]? = some e) : (wld S cI cZ ad h)[i]? = some (ad i, mk_v cI cZ ad h i e) := by
  unfold wld
  rw [List.getElem?_mapIdx, hs]
  rfl
theorem wld_key {k : Nat} {q : Nat × va_E} (hk : (wld S cI cZ ad h)[k]? = some q) : k < S.length ∧ q.1 = ad k := by
  unfold wld at hk
  rw [List.getElem?_mapIdx] at hk
  cases hs : S[k]? with
  | none => rw [hs] at hk; cases hk
  | some e =>
    rw [hs] at hk
    cases hk
    exact ⟨(List.getElem?_eq_some_iff.mp hs).1, rfl⟩
theorem wld_D (hA : AdOk base ad S.length) : va_D (fun q => base ≤ q) (wld S cI cZ ad h) := by
  refine ⟨fun i j p q hi hj hpq => ?_, fun k q hk => ?_⟩
  · obtain ⟨l1, h1⟩ := wld_key hi
    obtain ⟨l2, h2⟩ := wld_key hj
    exact hA.1 i j l1 l2 (h1.symm.trans (hpq.trans h2))
  · obtain ⟨l1, h1⟩ := wld_key hk
    show base ≤ q.1
    rw [h1]
    exact hA.2 k l1
theorem mk_v_ne {i j k : Nat} {v : Int32} (e : sh_E) (hj : j ≠ i) : mk_v cI cZ ad (u2 h i k v) j e = mk_v cI cZ ad h j e := by
  have h1 : u2 h i k v j = h j := u2_i h k v hj
  have h2 : mk_f ad (u2 h i k v) j = mk_f ad h j := by
    funext a o
    match o with
    | 0 => simp [mk_f, h1]
    | 1 => rfl
    | x + 2 => rfl
  cases e with
  | inl a => simp [mk_v, h1]
  | inr o => simp [mk_v, h2]
theorem mk_put {i k : Nat} {ks : List Nat} (hk : ks[k]? = some 0) (v : Int32) : (ks.mapIdx (mk_f ad h i)).set k (.int v) = ks.mapIdx (mk_f ad (u2 h i k v) i) := by
  have hl : k < ks.length := (List.getElem?_eq_some_iff.mp hk).1
  apply List.ext_getElem?
  intro j
  rw [List.getElem?_mapIdx]
  by_cases hj : k = j
  · subst hj
    rw [List.getElem?_set_self (by rw [List.length_mapIdx]; exact hl), hk]
    simp [mk_f, u2]
  · rw [List.getElem?_set_ne hj, List.getElem?_mapIdx]
    cases ks[j]? with
    | none => rfl
    | some o =>
      match o with
      | 0 => simp [mk_f, u2_k h v i (Ne.symm hj)]
      | 1 => rfl
      | x + 2 => rfl
theorem wld_set {i k : Nat} {v : Int32} {e : sh_E} {w : va_E} (hs : S[i]? = some e) (hw : w = mk_v cI cZ ad (u2 h i k v) i e) : (wld S cI cZ ad h).set i (ad i, w) = wld S cI cZ ad (u2 h i k v) := by
  have hl : i < (wld S cI cZ ad h).length := (List.getElem?_eq_some_iff.mp (wld_at hs)).1
  apply List.ext_getElem?
  intro j
  by_cases hj : i = j
  · subst hj
    rw [List.getElem?_set_self hl, wld_at hs, hw]
  · rw [List.getElem?_set_ne hj]
    cases hsj : S[j]? with
    | none =>
      unfold wld
      rw [List.getElem?_mapIdx, List.getElem?_mapIdx, hsj]
      rfl
    | some e' => rw [wld_at hsj, wld_at hsj, mk_v_ne e' (Ne.symm hj)]
end WLD
def Lc (ls : Array Slot) (nL : Nat) (vs : List (Option Value)) : Prop := ls.size = nL ∧ lv_wf ls ∧ (∀ (i : Nat) (v : Value), vs[i]? = some (some v) → ls[i]? = some (.val v) ∧ v.category = 1)
theorem Lc.at {ls : Array Slot} {nL : Nat} {vs : List (Option Value)} (h : Lc ls nL vs) (i : Nat) {v : Value} (hv : vs[i]? = some (some v)) : ls[i]? = some (.val v) := (h.2.2 i v hv).1
def Lm (vs : List (Option Value)) (ms : List Bool) : List (Option Value) := vs.zipWith (fun v b => cond b v none) ms
theorem Lc.mask {ls : Array Slot} {nL : Nat} {vs : List (Option Value)} (h : Lc ls nL vs) (ms : List Bool) : Lc ls nL (Lm vs ms) := by
  refine ⟨h.1, h.2.1, fun i v hv => ?_⟩
  unfold Lm at hv
  rw [List.getElem?_zipWith] at hv
  cases h1 : vs[i]? with
  | none => rw [h1] at hv; cases hv
  | some a =>
    cases h2 : ms[i]? with
    | none => rw [h1, h2] at hv; cases hv
    | some b =>
      rw [h1, h2] at hv
      cases b with
      | false => cases hv
      | true =>
        have ha : a = some v := Option.some.inj hv
        subst ha
        exact h.2.2 i v h1
def Lx : Nat → List (Option Value) → List (Nat × Value)
  | _, [] => []
  | n, none :: l => Lx (n + 1) l
  | n, some v :: l => (n, v) :: Lx (n + 1) l
theorem Lx_in : ∀ (l : List (Option Value)) (n : Nat) (q : Nat × Value), q ∈ Lx n l → ∃ i, q.1 = n + i ∧ l[i]? = some (some q.2)
  | [], n, q, h => by simp [Lx] at h
  | none :: l, n, q, h => by
    obtain ⟨i, h1, h2⟩ := Lx_in l (n + 1) q h
    exact ⟨i + 1, by omega, by simpa using h2⟩
  | some v :: l, n, q, h => by
    rcases List.mem_cons.mp h with rfl | h
    · exact ⟨0, rfl, rfl⟩
    · obtain ⟨i, h1, h2⟩ := Lx_in l (n + 1) q h
      exact ⟨i + 1, by omega, by simpa using h2⟩
theorem Lx_mem : ∀ (l : List (Option Value)) (n i : Nat) (v : Value), l[i]? = some (some v) → (n + i, v) ∈ Lx n l
  | [], n, i, v, h => by simp at h
  | none :: l, n, i, v, h => by
    cases i with
    | zero => simp at h
    | succ i =>
      have := Lx_mem l (n + 1) i v (by simpa using h)
      rw [show n + (i + 1) = n + 1 + i by omega]
      exact this
  | some w :: l, n, i, v, h => by
    cases i with
    | zero =>
      have : w = v := by simpa using h
      subst this
      exact List.mem_cons_self
    | succ i =>
      have := Lx_mem l (n + 1) i v (by simpa using h)
      rw [show n + (i + 1) = n + 1 + i by omega]
      exact List.mem_cons_of_mem _ this
theorem Lc.has {ls : Array Slot} {nL : Nat} {vs : List (Option Value)} (h : Lc ls nL vs) : lv_has ls nL (Lx 0 vs) := by
  refine ⟨h.1, h.2.1, fun q hq => ?_⟩
  obtain ⟨i, h1, h2⟩ := Lx_in vs 0 q hq
  rw [h1, Nat.zero_add]
  exact (h.2.2 i q.2 h2).1
theorem Lc.put {ls ls' : Array Slot} {nL i : Nat} {vs : List (Option Value)} {v : Value} (h : Lc ls nL vs) (hv : v.category = 1) (h' : lv_has ls' nL ((i, v) :: (Lx 0 vs).filter (fun q => !(q.1 == i) && !(q.1 + 1 == i && q.2.category == 2)))) : Lc ls' nL (vs.set i (some v)) := by
  refine ⟨h'.1, h'.2.1, fun j w hw => ?_⟩
  by_cases hij : i = j
  · subst hij
    have hl : i < (vs.set i (some v)).length := (List.getElem?_eq_some_iff.mp hw).1
    rw [List.length_set] at hl
    rw [List.getElem?_set_self hl] at hw
    have : v = w := by simpa using hw
    subst this
    exact ⟨h'.2.2 (i, v) List.mem_cons_self, hv⟩
  · rw [List.getElem?_set_ne hij] at hw
    have hc := (h.2.2 j w hw).2
    have hm := Lx_mem vs 0 j w hw
    rw [Nat.zero_add] at hm
    refine ⟨h'.2.2 (j, w) (List.mem_cons_of_mem _ (List.mem_filter.mpr ⟨hm, ?_⟩)), hc⟩
    have h1 : ¬ j = i := fun q => hij q.symm
    simp [h1, hc]
theorem lv_args_at : ∀ (vs : List Value) (i j : Nat) (v : Value), (∀ w ∈ vs, w.category = 1) → vs[j]? = some v → (i + j, v) ∈ lv_args i vs
  | [], i, j, v, _, h => by simp at h
  | w :: vs, i, j, v, hc, h => by
    have h1 : w.category = 1 := hc w List.mem_cons_self
    have e : lv_args i (w :: vs) = (i, w) :: lv_args (i + 1) vs := by simp [lv_args, h1]
    rw [e]
    cases j with
    | zero =>
      have : w = v := by simpa using h
      subst this
      exact List.mem_cons_self
    | succ j =>
      have := lv_args_at vs (i + 1) j v (fun q hq => hc q (List.mem_cons_of_mem _ hq)) (by simpa using h)
      rw [show i + (j + 1) = i + 1 + j by omega]
      exact List.mem_cons_of_mem _ this
theorem Lc_entry {ls : Array Slot} {n : Nat} {avs : List Value} (hcat : ∀ v ∈ avs, v.category = 1) (hl : lv_has ls n (lv_args 0 avs)) : Lc ls n (avs.map some ++ List.replicate (n - avs.length) none) := by
  refine ⟨hl.1, hl.2.1, fun i v hv => ?_⟩
  by_cases hi : i < avs.length
  · rw [List.getElem?_append_left (by simpa using hi), List.getElem?_map] at hv
    cases hx : avs[i]? with
    | none => rw [hx] at hv; cases hv
    | some w =>
      rw [hx] at hv
      have : w = v := by simpa using hv
      subst this
      have h2 := hl.2.2 (0 + i, w) (lv_args_at avs 0 i w hcat hx)
      refine ⟨by simpa using h2, hcat w (List.mem_of_getElem? hx)⟩
  · rw [List.getElem?_append_right (by simpa using hi)] at hv
    have h1 := List.mem_of_getElem? hv
    have h2 := List.eq_of_mem_replicate h1
    cases h2
def catOk (vs : List Value) : Bool := vs.all (fun v => v.category == 1)
theorem cat_ok {vs : List Value} (h : catOk vs = true) : ∀ v ∈ vs, v.category = 1 := by
  intro v hv
  have := List.all_eq_true.mp h v hv
  simpa using this
