def ext (ad : Nat → Nat) (n : Nat) (f : Nat → Nat) : Nat → Nat := fun j => if j < n then ad j else f j
def shOk (n : Nat) (S : List sh_E) : Bool := S.all (fun e => match e with
  | .inl _ => true
  | .inr o => o.2.all (fun c => decide (c < n + 2)))
def dfl (c : Nat) : Value := match c with
  | 0 => .int 0
  | _ + 1 => .null
def Zr (n : Nat) (h : HH) : Prop := ∀ j, n ≤ j → ∀ k, h j k = 0
theorem Zr.mono {n n' : Nat} {h : HH} (z : Zr n h) (hn : n ≤ n') : Zr n' h := fun j hj k => z j (Nat.le_trans hn hj) k
theorem Zr.put {n i k : Nat} {h : HH} {v : Int32} (z : Zr n h) (hi : i < n) : Zr n (u2 h i k v) := fun j hj k' => by
  rw [u2_i h k v (by omega)]
  exact z j hj k'
section GROW
variable {S : List sh_E} {cI cZ : ClassId} {base : Nat} {ad : Nat → Nat} {h : HH}
theorem mk_f_ext {n i k c : Nat} {f : Nat → Nat} (hc : c < n + 2) : mk_f (ext ad n f) h i k c = mk_f ad h i k c := by
  match c with
  | 0 => rfl
  | 1 => rfl
  | x + 2 =>
    have hx : x < n := by omega
    simp [mk_f, ext, hx]
theorem mk_v_ext {n i : Nat} {f : Nat → Nat} {e : sh_E} (he : shOk n [e] = true) : mk_v cI cZ (ext ad n f) h i e = mk_v cI cZ ad h i e := by
  cases e with
  | inl a => rfl
  | inr o =>
    have ho : ∀ c ∈ o.2, c < n + 2 := by
      intro c hc
      have h1 : o.2.all (fun c => decide (c < n + 2)) = true := by simpa [shOk] using he
      simpa using List.all_eq_true.mp h1 c hc
    have hm : o.2.mapIdx (mk_f (ext ad n f) h i) = o.2.mapIdx (mk_f ad h i) := by
      apply List.ext_getElem?
      intro j
      rw [List.getElem?_mapIdx, List.getElem?_mapIdx]
      cases hj : o.2[j]? with
      | none => rfl
      | some c =>
        have := mk_f_ext (ad := ad) (h := h) (i := i) (k := j) (f := f) (ho c (List.mem_of_getElem? hj))
        simp [this]
    simp [mk_v, hm]
theorem shOk_at {n i : Nat} {e : sh_E} (hS : shOk n S = true) (hi : S[i]? = some e) : shOk n [e] = true := by
  have := List.all_eq_true.mp hS e (List.mem_of_getElem? hi)
  simpa [shOk] using this
theorem wld_ext {f : Nat → Nat} (hS : shOk S.length S = true) : wld S cI cZ (ext ad S.length f) h = wld S cI cZ ad h := by
  apply List.ext_getElem?
  intro j
  cases hj : S[j]? with
  | none =>
    unfold wld
    rw [List.getElem?_mapIdx, List.getElem?_mapIdx, hj]
    rfl
  | some e =>
    have hl : j < S.length := (List.getElem?_eq_some_iff.mp hj).1
    have h1 : ext ad S.length f j = ad j := by simp [ext, hl]
    rw [wld_at hj, wld_at hj, h1, mk_v_ext (shOk_at hS hj)]
theorem wld_push {e : sh_E} {w : va_E} {q : Nat} (hS : shOk S.length S = true) (hw : w = mk_v cI cZ (ext ad S.length (fun _ => q)) h S.length e) : wld S cI cZ ad h ++ [(q, w)] = wld (S ++ [e]) cI cZ (ext ad S.length (fun _ => q)) h := by
  have hlen : (wld S cI cZ ad h).length = S.length := by simp [wld]
  apply List.ext_getElem?
  intro j
  by_cases hj : j < S.length
  · rw [List.getElem?_append_left (by rw [hlen]; exact hj), ← wld_ext (f := fun _ => q) hS]
    have hs : S[j]? = some S[j] := List.getElem?_eq_getElem hj
    rw [wld_at hs, wld_at (S := S ++ [e]) (e := S[j]) (by rw [List.getElem?_append_left hj]; exact hs)]
  · rw [List.getElem?_append_right (by rw [hlen]; omega), hlen]
    by_cases hj2 : j = S.length
    · subst hj2
      rw [Nat.sub_self, wld_at (S := S ++ [e]) (e := e) (by rw [List.getElem?_append_right (Nat.le_refl _), Nat.sub_self]; rfl), hw]
      simp [ext]
    · have h1 : (S ++ [e])[j]? = none := by
        rw [List.getElem?_eq_none_iff]
        simp
        omega
      unfold wld
      rw [List.getElem?_mapIdx, h1]
      have : ¬ j - S.length = 0 := by omega
      simp [this]
theorem AdOk.ofD {D : va_G} {A : Nat → Prop} (hA : ∀ q, A q → base ≤ q) (hD : va_D A (wld S cI cZ ad h)) : AdOk base ad S.length := by
  have key : ∀ i, i < S.length → ∃ e, (wld S cI cZ ad h)[i]? = some (ad i, e) := fun i hi => ⟨_, wld_at (List.getElem?_eq_getElem hi)⟩
  refine ⟨fun i j hi hj hij => ?_, fun i hi => ?_⟩
  · obtain ⟨e1, h1⟩ := key i hi
    obtain ⟨e2, h2⟩ := key j hj
    exact hD.1 i j _ _ h1 h2 hij
  · obtain ⟨e1, h1⟩ := key i hi
    exact hA _ (hD.2 i _ h1)
theorem mk_setr {i k j : Nat} {ks : List Nat} (hk : k < ks.length) : (ks.mapIdx (mk_f ad h i)).set k (.ref (ad j)) = (ks.set k (j + 2)).mapIdx (mk_f ad h i) := by
  apply List.ext_getElem?
  intro x
  rw [List.getElem?_mapIdx]
  by_cases hx : k = x
  · subst hx
    rw [List.getElem?_set_self (by rw [List.length_mapIdx]; exact hk), List.getElem?_set_self hk]
    rfl
  · rw [List.getElem?_set_ne hx, List.getElem?_set_ne hx, List.getElem?_mapIdx]
theorem wld_setr {i k j ci : Nat} {ks : List Nat} (hs : S[i]? = some (.inr (ci, ks))) (hk : k < ks.length) : (wld S cI cZ ad h).set i (ad i, .inr (ci, (ks.mapIdx (mk_f ad h i)).set k (.ref (ad j)))) = wld (S.set i (.inr (ci, ks.set k (j + 2)))) cI cZ ad h := by
  have hl : i < S.length := (List.getElem?_eq_some_iff.mp hs).1
  have hl2 : i < (wld S cI cZ ad h).length := (List.getElem?_eq_some_iff.mp (wld_at hs)).1
  apply List.ext_getElem?
  intro x
  by_cases hx : i = x
  · subst hx
    rw [List.getElem?_set_self hl2, wld_at (S := S.set i (.inr (ci, ks.set k (j + 2)))) (e := .inr (ci, ks.set k (j + 2))) (by rw [List.getElem?_set_self hl]), mk_setr hk]
    rfl
  · rw [List.getElem?_set_ne hx]
    unfold wld
    rw [List.getElem?_mapIdx, List.getElem?_mapIdx, List.getElem?_set_ne hx]
end GROW
abbrev NF (own : String) (idx ci N : Nat) (ks : List Nat) : Prop := ∃ (C : String) (T : u_T) (ty : Nat → FieldType), vwCl[ci]? = some (C, T, N) ∧ (∀ w ∈ u_ws C T N, w ∈ TB) ∧ (∀ k, k < N → parseFieldDescriptor (T k).2.2.1 = some (ty k)) ∧ Cond.classLink own idx C ∈ TB ∧ Cond.instantiable C N ∈ TB ∧ Cond.initialized C ∈ TB ∧ (∀ j, j < N → defaultValue (ty j) = vp_V (ks.map dfl) j)
abbrev FR (own : String) (idx ci k : Nat) (ty : FieldType) : Prop := ∃ (C : String) (T : u_T) (N : Nat) (tf : Nat → FieldType), vwCl[ci]? = some (C, T, N) ∧ k < N ∧ (∀ w ∈ u_ws C T N, w ∈ TB) ∧ Cond.fieldLink own idx (T k).1 (T k).2.1 (T k).2.2.1 ∈ TB ∧ (∀ k, k < N → parseFieldDescriptor (T k).2.2.1 = some (tf k)) ∧ (∀ a, a < N → ∀ b, b < N → a ≠ b → (T a).2.1 ≠ (T b).2.1) ∧ (T k).2.2.2 = true ∧ (T k).1 = own ∧ parseFieldDescriptor (T k).2.2.1 = some ty
def Cn (l : Launch) (D : va_G) (cI cZ : ClassId) (base : Nat) (y : MethodName) (bytes : ByteArray) (maxL d lw mc ms : Nat) (avs : List Value) (ad : Nat → Nat) (S : List sh_E) (h : HH) (S' : List sh_E) (h' : HH) : Prop :=
  Met l y (Cond.code y bytes maxL none :: TB) { frames := d, cells := mc, slots := ms, locals := lw }
    (va_Pc avs (fun U => va_P D vwCl (wld S cI cZ ad h) U.heap ∧ KK D cI cZ U ∧ AdOk base ad S.length ∧ base ≤ U.heap.size))
    (fun _ st oc t => (∃ f : Nat → Nat, oc = .returned none ∧ va_P D vwCl (wld S' cI cZ (ext ad S.length f) h') t.heap ∧ AdOk base (ext ad S.length f) S'.length) ∧ va_F (fun q => base ≤ q) st t) mc ms (fun q => base ≤ q)
section CROWS
variable {p : Program} {l : Launch} {e : Env} {R : Room} {s : State} {m : MethodId} {args : Array Value} {below : List Frame} {meth : Method} {c : Code} {H : Heap} {locs : List Loc} {cells slots : Nat} {Q : State → Prop}
variable {cc : ByteArray} {pc nL : Nat} {ls : Array Slot} {rest : List Value} {D : va_G} {cI cZ : ClassId} {base : Nat} {ad : Nat → Nat} {S : List sh_E} {h : HH} {own : String}
theorem k_new (X : CallFix p m c cc nL s args TB own) (K : KK D cI cZ s) (hw : Hw D cI cZ base ad s S h H locs) (hb : base ≤ s.heap.size) {idx ci N : Nat} {ks : List Nat} (F : NF own idx ci N ks) (hz : Zr S.length h) (hS : shOk S.length S = true) (hc1 : cells + 1 ≤ R.cells) (hc2 : slots + N ≤ R.slots) (hk01 : ∀ c ∈ ks, c ≤ 1) (hdg : decode cc pc = .ok (.new idx, 3))
    (kk : ∀ (q : Nat) (H1 : Heap), Hw D cI cZ base (ext ad S.length (fun _ => q)) s (S ++ [.inr (ci, ks)]) h H1 locs → W p l e R s m args below meth c H1 locs (cells + 1) (slots + N) Q (F0 m (pc + 3) ls (.ref q :: rest))) : W p l e R s m args below meth c H locs cells slots Q (F0 m pc ls rest) := by
  obtain ⟨C, T, ty, h1, h2, h3, h4, h5, h6, h7⟩ := F
  have hts := X.2.2.2.2
  refine va_new (D := D) (ci := ci) (fs := ks.map dfl) X.1 X.2.1 hts h2 ty h3 X.2.2.2.1 (hts _ h4) (hts _ h5) (hts _ h6) K.1 hw.1 (wld_D hw.2.2) hw.2.1 (fun q hq => Nat.le_trans hb hq) h1 h7 hc1 hc2 hdg (fun q H1 hP hD hS1 => kk q H1 ?_)
  have hv : (.inr (ci, ks.map dfl) : va_E) = mk_v cI cZ (ext ad S.length (fun _ => q)) h S.length (.inr (ci, ks)) := by
    have : ks.map dfl = ks.mapIdx (mk_f (ext ad S.length (fun _ => q)) h S.length) := by
      apply List.ext_getElem?
      intro j
      rw [List.getElem?_map, List.getElem?_mapIdx]
      cases hj : ks[j]? with
      | none => rfl
      | some c =>
        have hc := hk01 c (List.mem_of_getElem? hj)
        match c, hc with
        | 0, _ => simp [dfl, mk_f, hz S.length (Nat.le_refl _) j]
        | 1, _ => rfl
    simp [mk_v, this]
  rw [wld_push hS hv] at hP hD
  exact ⟨hP, hS1, AdOk.ofD (D := D) (fun q h => h) hD⟩
theorem ty_int {cA : ClassId} (hK : va_K D vwCl (tyz cI cZ ++ [(cA, .int)]) s) : cA = cI := Option.some.inj ((show s.vm.findClass _ = some cA from (hK.2 2 _ rfl).2).symm.trans (show s.vm.findClass _ = some cI from (hK.2 0 _ rfl).2))
theorem ty_bool {cA : ClassId} (hK : va_K D vwCl (tyz cI cZ ++ [(cA, .boolean)]) s) : cA = cZ := Option.some.inj ((show s.vm.findClass _ = some cA from (hK.2 2 _ rfl).2).symm.trans (show s.vm.findClass _ = some cZ from (hK.2 1 _ rfl).2))
theorem k_newi (X : CallFix p m c cc nL s args TB own) (K : KK D cI cZ s) (hw : Hw D cI cZ base ad s S h H locs) (hb : base ≤ s.heap.size) (hW : Cond.arrayClass .int ∈ TB) {n : Int32} {N : Nat} (hn : ¬ n < 0) (hN : n.toNatClampNeg = N) (hN2 : N * componentBytes .int ≤ 536870912) (hz : Zr S.length h) (hS : shOk S.length S = true) (hc1 : cells + 1 ≤ R.cells) (hc2 : slots + N ≤ R.slots) (hdg : decode cc pc = .ok (.newarray .int, 2))
    (kk : ∀ (q : Nat) (H1 : Heap), Hw D cI cZ base (ext ad S.length (fun _ => q)) s (S ++ [.inl (N, false)]) h H1 locs → W p l e R s m args below meth c H1 locs (cells + 1) (slots + N) Q (F0 m (pc + 2) ls (.ref q :: rest))) : W p l e R s m args below meth c H locs cells slots Q (F0 m pc ls (.int n :: rest)) := by
  refine va_newa (atype := .int) (ty := .int) (a0 := (N, .inl (fun _ => 0))) X.1 X.2.1 (X.2.2.2.2 _ hW) rfl K.1 hw.1 (wld_D hw.2.2) hw.2.1 (fun q hq => Nat.le_trans hb hq) (fun _ => rfl) hn hN hN2 hc1 hc2 hdg (fun q cA H1 hK hP hD hS1 => kk q H1 ?_)
  have hcA := ty_int hK
  subst hcA
  have hv : (.inl (cA, N, .inl (fun _ => 0)) : va_E) = mk_v cA cZ (ext ad S.length (fun _ => q)) h S.length (.inl (N, false)) := by
    have : h S.length = fun _ => 0 := by funext k; exact hz S.length (Nat.le_refl _) k
    simp [mk_v, this]
  rw [wld_push hS hv] at hP hD
  exact ⟨hP, hS1, AdOk.ofD (D := D) (fun q h => h) hD⟩
theorem k_newz (X : CallFix p m c cc nL s args TB own) (K : KK D cI cZ s) (hw : Hw D cI cZ base ad s S h H locs) (hb : base ≤ s.heap.size) (hW : Cond.arrayClass .boolean ∈ TB) {n : Int32} {N : Nat} (hn : ¬ n < 0) (hN : n.toNatClampNeg = N) (hN2 : N * componentBytes .boolean ≤ 536870912) (hz : Zr S.length h) (hS : shOk S.length S = true) (hc1 : cells + 1 ≤ R.cells) (hc2 : slots + N ≤ R.slots) (hdg : decode cc pc = .ok (.newarray .boolean, 2))
    (kk : ∀ (q : Nat) (H1 : Heap), Hw D cI cZ base (ext ad S.length (fun _ => q)) s (S ++ [.inl (N, true)]) h H1 locs → W p l e R s m args below meth c H1 locs (cells + 1) (slots + N) Q (F0 m (pc + 2) ls (.ref q :: rest))) : W p l e R s m args below meth c H locs cells slots Q (F0 m pc ls (.int n :: rest)) := by
  refine va_newa (atype := .boolean) (ty := .boolean) (a0 := (N, .inl (fun _ => 0))) X.1 X.2.1 (X.2.2.2.2 _ hW) rfl K.1 hw.1 (wld_D hw.2.2) hw.2.1 (fun q hq => Nat.le_trans hb hq) (fun _ => rfl) hn hN hN2 hc1 hc2 hdg (fun q cA H1 hK hP hD hS1 => kk q H1 ?_)
  have hcA := ty_bool hK
  subst hcA
  have hv : (.inl (cA, N, .inl (fun _ => 0)) : va_E) = mk_v cI cA (ext ad S.length (fun _ => q)) h S.length (.inl (N, true)) := by
    have : h S.length = fun _ => 0 := by funext k; exact hz S.length (Nat.le_refl _) k
    simp [mk_v, this]
  rw [wld_push hS hv] at hP hD
  exact ⟨hP, hS1, AdOk.ofD (D := D) (fun q h => h) hD⟩
theorem k_putr (X : CallFix p m c cc nL s args TB own) (K : KK D cI cZ s) (hw : Hw D cI cZ base ad s S h H locs) (hin : meth.name = "<init>") {idx ci k : Nat} {ty : FieldType} (F : FR own idx ci k ty) {i j : Nat} {ks : List Nat} (hs : S[i]? = some (.inr (ci, ks))) (hk : k < ks.length) {a b : Nat} (ha : a = ad i) (hb : b = ad j) (hn : ∀ x : Nat, narrow ty (.ref x) = .ref x) (hf : ∀ x : Nat, fits ty (.ref x) = true) (hdg : decode cc pc = .ok (.putfield idx, 3))
    (kk : ∀ (H1 : Heap) (locs1 : List Loc), Hw D cI cZ base ad s (S.set i (.inr (ci, ks.set k (j + 2)))) h H1 locs1 → W p l e R s m args below meth c H1 locs1 cells slots Q (F0 m (pc + 3) ls rest)) : W p l e R s m args below meth c H locs cells slots Q (F0 m pc ls (.ref b :: .ref a :: rest)) := by
  obtain ⟨C, T, N, tf, h1, h2, h3, h4, h5, h6, h7, h8, h9⟩ := F
  subst ha
  subst hb
  refine va_putF (D := D) (own := own) (ref := (T k).1) X.1 X.2.1 X.2.2.2.2 h3 tf h5 h6 X.2.2.2.1 K.1 hw.1 (wld_D hw.2.2) hw.2.1 i (wld_at hs) h1 k h2 (X.2.2.2.2 _ h4) (fun _ h9 => h9) h7 hin h8 h9 (hn _) (hf _) (by rw [List.length_mapIdx]; exact hk) hdg (fun H1 locs1 hP hD hS => kk H1 locs1 ⟨?_, hS, ?_⟩)
  · rw [wld_setr hs hk] at hP
    exact hP
  · rw [List.length_set]
    exact hw.2.2
theorem k_puti (X : CallFix p m c cc nL s args TB own) (K : KK D cI cZ s) (hw : Hw D cI cZ base ad s S h H locs) (hin : meth.name = "<init>") {idx ci k : Nat} {ty : FieldType} (F : FR own idx ci k ty) {i : Nat} {ks : List Nat} (hs : S[i]? = some (.inr (ci, ks))) (hk : ks[k]? = some 0) {a : Nat} (ha : a = ad i) {v : Int32} (hn : narrow ty (.int v) = .int v) (hf : fits ty (.int v) = true) (hdg : decode cc pc = .ok (.putfield idx, 3))
    (kk : ∀ (H1 : Heap) (locs1 : List Loc), Hw D cI cZ base ad s S (u2 h i k v) H1 locs1 → W p l e R s m args below meth c H1 locs1 cells slots Q (F0 m (pc + 3) ls rest)) : W p l e R s m args below meth c H locs cells slots Q (F0 m pc ls (.int v :: .ref a :: rest)) := by
  obtain ⟨C, T, N, tf, h1, h2, h3, h4, h5, h6, h7, h8, h9⟩ := F
  subst ha
  have hl : k < (ks.mapIdx (mk_f ad h i)).length := by
    rw [List.length_mapIdx]
    exact (List.getElem?_eq_some_iff.mp hk).1
  refine va_putF (D := D) (own := own) (ref := (T k).1) X.1 X.2.1 X.2.2.2.2 h3 tf h5 h6 X.2.2.2.1 K.1 hw.1 (wld_D hw.2.2) hw.2.1 i (wld_at hs) h1 k h2 (X.2.2.2.2 _ h4) (fun _ h9 => h9) h7 hin h8 h9 hn hf hl hdg (fun H1 locs1 hP hD hS => kk H1 locs1 ⟨?_, hS, hw.2.2⟩)
  rw [wld_set (k := k) (v := v) hs (show (.inr (ci, (ks.mapIdx (mk_f ad h i)).set k (.int v)) : va_E) = mk_v cI cZ ad (u2 h i k v) i (.inr (ci, ks)) by rw [mk_put hk v]; rfl)] at hP
  exact hP
theorem k_ret {S' : List sh_E} {ad' : Nat → Nat} {h' : HH} {n : Nat} {f : Nat → Nat} (X : CallFix p m c cc nL s args TB own) (hr : meth.sig.returnType = none) (hk : meth.locks = false) (hw : Hw D cI cZ base ad' s S' h' H locs) (he : ad' = ext ad n f) (hdg : decode cc pc = .ok (.return_, 1)) : W p l e R s m args below meth c H locs cells slots (MQ below (fun _ st oc t => (∃ f : Nat → Nat, oc = .returned none ∧ va_P D vwCl (wld S' cI cZ (ext ad n f) h') t.heap ∧ AdOk base (ext ad n f) S'.length) ∧ va_F (fun q => base ≤ q) st t) args s cells slots (fun q => base ≤ q)) (F0 m pc ls []) := by
  subst he
  exact W.vret X.1 X.2.1 hr (fun t ht hW => ⟨⟨f, rfl, by rw [ht]; exact hw.1, hw.2.2⟩, hw.2.1.F ht⟩) hw.2.1.2.2 hdg hk
theorem ext_ext (ad : Nat → Nat) {n n' : Nat} (hn : n ≤ n') (f g : Nat → Nat) : ext (ext ad n f) n' g = ext ad n (ext f n' g) := by
  funext j
  unfold ext
  by_cases h1 : j < n
  · have : j < n' := by omega
    simp [h1, this]
  · by_cases h2 : j < n' <;> simp [h1, h2]
theorem Cn.of {l : Launch} {y : MethodName} {bytes : ByteArray} {maxL d lw mc ms : Nat} {avs : List Value} {S' : List sh_E} {h' : HH} (hy : plainName y.cls = true) (hn : y.name = "<init>") (hav : (lg_sl avs).length ≤ maxL) (hcat : ∀ v ∈ avs, v.category = 1)
    (body : ∀ (p : Program) (e : Env) (s : State) (m : MethodId) (args : Array Value) (below : List Frame) (meth : Method) (c : Code) (ls : Array Slot), CallFix p m c bytes maxL s args TB y.cls → KK D cI cZ s → meth.sig.returnType = none → meth.locks = false → meth.name = "<init>" → base ≤ s.heap.size → Lc ls maxL (avs.map some ++ List.replicate (maxL - avs.length) none) → Hw D cI cZ base ad s S h s.heap [] →
      W p l e { frames := d, cells := mc, slots := ms, locals := lw } s m args below meth c s.heap [] 0 0 (MQ below (fun _ st oc t => (∃ f : Nat → Nat, oc = .returned none ∧ va_P D vwCl (wld S' cI cZ (ext ad S.length f) h') t.heap ∧ AdOk base (ext ad S.length f) S'.length) ∧ va_F (fun q => base ≤ q) st t) args s mc ms (fun q => base ≤ q)) (F0 m 0 ls [])) : Cn l D cI cZ base y bytes maxL d lw mc ms avs ad S h S' h' := by
  refine Met.ofW (cc := bytes) (maxL := maxL) (ret := none) hy rfl ?_
  intro p e s m args below meth c s₁ B hml hv
  obtain ⟨rfl, hP, hK, hA, hB⟩ := hv
  have hts := atoms_spec (ws := Cond.code y bytes maxL none :: TB) B.pre
  have hl := lv_entry avs (n := maxL) hav
  rw [lg_entry_eq]
  generalize (lg_sl avs ++ List.replicate (maxL - (lg_sl avs).length) Slot.unset).toArray = ls at hl ⊢
  refine body p e s m _ below meth c ls ⟨B.exec, B.bytes, hml, findClass_of_methodNamed B.named, fun w hw => hts w (List.mem_cons_of_mem _ hw)⟩ hK B.returns B.notSynchronized ?_ hB (Lc_entry hcat hl) ⟨hP, va_S.rf, hA⟩
  rw [← hn]
  exact (name_of_methodNamed B.named B.method).1
theorem k_ctor (X : CallFix p m c cc nL s args TB own) (K : KK D cI cZ s) (hw : Hw D cI cZ base ad s S h H locs) (hb : base ≤ s.heap.size) (hl : ls.size = nL) {idx : Nat} {y : MethodName} {bytes : ByteArray} {maxL n d lw mc ms : Nat} (M : MF own idx y bytes maxL none n ∧ y.name = "<init>" ∧ Cond.instanceMethod y ∈ TB) {b : Nat} {As : List Value} {S' : List sh_E} {h' : HH} (hC : Cn l D cI cZ base y bytes maxL d lw mc ms (.ref b :: As) ad S h S' h')
    (hR : d + 1 ≤ R.frames ∧ 8 + (maxL + 11) + lw ≤ R.locals) (hcs : cells + mc ≤ R.cells ∧ slots + ms ≤ R.slots) (hn : As.length = n) {st0 : List Value} (hst : st0 = As.reverse ++ .ref b :: rest) (hrm : (rest.map fun v => v.category).sum ≤ 8) (hdg : decode cc pc = .ok (.invokespecial idx, 3))
    (kk : ∀ (f : Nat → Nat) (H1 : Heap) (locs1 : List Loc), Hw D cI cZ base (ext ad S.length f) s S' h' H1 locs1 → W p l e R s m args below meth c H1 locs1 (cells + mc) (slots + ms) Q (F0 m (pc + 3) ls rest)) : W p l e R s m args below meth c H locs cells slots Q (F0 m pc ls st0) := by
  obtain ⟨⟨m1, m2, m3, m4⟩, m5, m6⟩ := M
  have hts := X.2.2.2.2
  have hr := va_runI (cells := cells) (slots := slots) (locs := locs) (below := below) (meth := meth) (e := e) (R := R) (b := b) (As := As) (rest := rest) (g := F0 m pc ls st0) X hC ⟨callB_of n hts (good_code m2) rfl rfl rfl (hts _ m3) (hts _ m1) m4 hR, m5, hts _ m6⟩ ⟨fun a U g mk q => ⟨q.1, q.2.1, ⟨va_K.moved (u := U) (U := U.calling g mk a) (Vm.Alike.refl U.vm) q.2.2.1.1, va_Nw.same rfl rfl q.2.2.1.2⟩, q.2.2.2⟩, fun U hU hW => ⟨rfl, by rw [hU]; exact hw.1, KK.moved hW K, hw.2.2, by rw [hU]; exact Nat.le_trans hb hw.2.1.1⟩⟩ rfl hn hl hst (lv_room hrm) hdg hcs
  intro T hT X1
  obtain ⟨v, st₀, t, T', L, h0, X', hL, e1, e2, ⟨⟨f, hv, hP1, hA1⟩, hz, hk⟩, st⟩ := hr T hT X1
  cases hv
  rw [h0] at hz hk
  obtain ⟨t2, a1, b1⟩ := kk f T'.heap (locs ++ L) ⟨by rw [e1]; exact hP1, ⟨Nat.le_trans hw.2.1.1 (by rw [e1]; exact hz), fun q h1 h2 => by rw [e1, hk q (Nat.lt_of_lt_of_le h1 hw.2.1.1) h2]; exact hw.2.1.2.1 q h1 h2, fun q hq => by
      rcases List.mem_append.mp hq with h | h
      · exact hw.2.1.2.2 q h
      · exact hL q h⟩, hA1⟩ T' rfl X'
  exact ⟨t2, st t2 a1, b1⟩
end CROWS
