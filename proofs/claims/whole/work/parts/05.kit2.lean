def n9_own : String := R_E
def n9_idx : Nat := 19
def n9_y : MethodName := y_V_blocksOfExtent
def n9_host : String := "TwinVolume"
abbrev isN (i : Nat) : Prop := i = 1 ∨ i = 11
def shape : List sh_E := [.inr (0, [3, 13, 23, 0, 0]), .inr (1, [0, 4, 5, 7, 11, 0, 0, 0, 0, 0, 0, 0, 0, 0, 0, 0, 0]), .inl (32, false), .inr (2, [6, 0]), .inl (3, false), .inr (3, [8, 9, 10, 0, 0]), .inl (25, false), .inl (25, false), .inl (25, false), .inr (4, [12, 0]), .inl (8, false), .inr (1, [0, 14, 15, 17, 21, 0, 0, 0, 0, 0, 0, 0, 0, 0, 0, 0, 0]), .inl (32, false), .inr (2, [16, 0]), .inl (3, false), .inr (3, [18, 19, 20, 0, 0]), .inl (25, false), .inl (25, false), .inl (25, false), .inr (4, [22, 0]), .inl (8, false), .inr (5, [24, 25, 26, 27, 28, 0]), .inl (301, false), .inl (301, false), .inl (301, false), .inl (301, false), .inl (301, false), .inr (6, [0, 30, 31, 32, 33, 34, 35, 36, 37, 38, 39, 0, 40, 41, 0, 42, 43, 44, 45, 46, 47, 48, 49, 0, 50, 51, 52, 53]), .inl (301, false), .inl (301, false), .inl (301, false), .inl (301, false), .inl (301, false), .inl (301, true), .inl (64, false), .inl (64, true), .inl (16, true), .inl (16, false), .inl (2, false), .inl (2, false), .inl (2, true), .inl (2, true), .inl (2, true), .inl (2, true), .inl (2, true), .inl (2, true), .inl (2, true), .inl (2, false), .inl (128, false), .inl (128, false), .inl (128, false), .inl (2, false)]
theorem shp_N {i : Nat} (hi : isN i) : shape[i]? = some (.inr (1, [0, i + 1 + 2, i + 2 + 2, i + 4 + 2, i + 8 + 2, 0, 0, 0, 0, 0, 0, 0, 0, 0, 0, 0, 0])) := by
  rcases hi with rfl | rfl <;> rfl
theorem shp_E {i : Nat} (hi : isN i) : shape[i + 2]? = some (.inr (2, [i + 3 + 2, 0])) := by
  rcases hi with rfl | rfl <;> rfl
theorem shp_O {i : Nat} (hi : isN i) : shape[i + 4]? = some (.inr (3, [i + 5 + 2, i + 6 + 2, i + 7 + 2, 0, 0])) := by
  rcases hi with rfl | rfl <;> rfl
theorem shp_L {i : Nat} (hi : isN i) : shape[i + 8]? = some (.inr (4, [i + 9 + 2, 0])) := by
  rcases hi with rfl | rfl <;> rfl
theorem sha_1 {i : Nat} (hi : isN i) : shape[i + 1]? = some (.inl (32, false)) := by
  rcases hi with rfl | rfl <;> rfl
theorem sha_3 {i : Nat} (hi : isN i) : shape[i + 3]? = some (.inl (3, false)) := by
  rcases hi with rfl | rfl <;> rfl
theorem sha_5 {i : Nat} (hi : isN i) : shape[i + 5]? = some (.inl (25, false)) := by
  rcases hi with rfl | rfl <;> rfl
theorem sha_6 {i : Nat} (hi : isN i) : shape[i + 6]? = some (.inl (25, false)) := by
  rcases hi with rfl | rfl <;> rfl
theorem sha_7 {i : Nat} (hi : isN i) : shape[i + 7]? = some (.inl (25, false)) := by
  rcases hi with rfl | rfl <;> rfl
theorem sha_9 {i : Nat} (hi : isN i) : shape[i + 9]? = some (.inl (8, false)) := by
  rcases hi with rfl | rfl <;> rfl
abbrev tyz (cI cZ : ClassId) : List (ClassId × FieldType) := [(cI, .int), (cZ, .boolean)]
def NW (U : State) : Prop := va_Nw (.methodLinkNest n9_own n9_idx n9_y n9_host) U
def KK (D : va_G) (cI cZ : ClassId) (U : State) : Prop := va_K D vwCl (tyz cI cZ) U ∧ NW U
theorem KK.moved {D : va_G} {cI cZ : ClassId} {u U : State} (hW : u.WarmedH U.vm) (h : KK D cI cZ u) : KK D cI cZ U := ⟨va_K.moved hW.alike h.1, va_Nw.warmM hW h.2⟩
def Hw (D : va_G) (cI cZ : ClassId) (base : Nat) (ad : Nat → Nat) (s : State) (S : List sh_E) (h : HH) (H : Heap) (locs : List Loc) : Prop := va_P D vwCl (wld S cI cZ ad h) H ∧ va_S (fun q => base ≤ q) s.heap H locs ∧ AdOk base ad S.length
abbrev FG (own : String) (idx ci k : Nat) : Prop := ∃ (C : String) (T : u_T) (N : Nat), vwCl[ci]? = some (C, T, N) ∧ k < N ∧ (∀ w ∈ u_ws C T N, w ∈ TB) ∧ Cond.fieldLink own idx (T k).1 (T k).2.1 (T k).2.2.1 ∈ TB
abbrev FP (own : String) (idx ci k : Nat) (ty : FieldType) : Prop := ∃ (C : String) (T : u_T) (N : Nat) (tf : Nat → FieldType), vwCl[ci]? = some (C, T, N) ∧ k < N ∧ (∀ w ∈ u_ws C T N, w ∈ TB) ∧ Cond.fieldLink own idx (T k).1 (T k).2.1 (T k).2.2.1 ∈ TB ∧ (∀ k, k < N → parseFieldDescriptor (T k).2.2.1 = some (tf k)) ∧ (∀ a, a < N → ∀ b, b < N → a ≠ b → (T a).2.1 ≠ (T b).2.1) ∧ (T k).2.2.2 = false ∧ parseFieldDescriptor (T k).2.2.1 = some ty
abbrev MF (own : String) (idx : Nat) (y : MethodName) (bytes : ByteArray) (maxL : Nat) (ret : Option FieldType) (n : Nat) : Prop := Cond.methodLink own idx y ∈ TB ∧ Cond.code y bytes maxL ret ∈ TB ∧ Cond.initialized y.cls ∈ TB ∧ (y.cls ≠ "java/lang/invoke/MethodHandle" ∧ y.cls ≠ "java/lang/invoke/VarHandle" ∧ (parseMethodDescriptor y.desc).map (fun d => d.parameters.length) = some n)
abbrev MN (y : MethodName) (bytes : ByteArray) (maxL : Nat) (ret : Option FieldType) (n : Nat) : Prop := Cond.code y bytes maxL ret ∈ TB ∧ Cond.initialized y.cls ∈ TB ∧ (y.cls ≠ "java/lang/invoke/MethodHandle" ∧ y.cls ≠ "java/lang/invoke/VarHandle" ∧ (parseMethodDescriptor y.desc).map (fun d => d.parameters.length) = some n)
abbrev rmD (d lw : Nat) : Room := { frames := d, cells := 0, slots := 0, locals := lw }
def Pw (D : va_G) (cI cZ : ClassId) (base : Nat) (ad : Nat → Nat) (avs : List Value) (h : HH) : Array Value → State → Prop := va_Pc avs (fun U => va_P D vwCl (wld shape cI cZ ad h) U.heap ∧ KK D cI cZ U ∧ AdOk base ad shape.length)
def Qw (D : va_G) (cI cZ : ClassId) (base : Nat) (ad : Nat → Nat) (post : Option Value → HH → Prop) : Array Value → State → Outcome → State → Prop := fun _ st oc t => (∃ (v : Option Value) (h' : HH), oc = .returned v ∧ post v h' ∧ va_P D vwCl (wld shape cI cZ ad h') t.heap) ∧ va_F (fun q => base ≤ q) st t
def Ct (l : Launch) (D : va_G) (cI cZ : ClassId) (base : Nat) (ad : Nat → Nat) (y : MethodName) (bytes : ByteArray) (maxL : Nat) (ret : Option FieldType) (d lw : Nat) (avs : List Value) (h : HH) (post : Option Value → HH → Prop) : Prop :=
  Met l y (Cond.code y bytes maxL ret :: TB) (rmD d lw) (Pw D cI cZ base ad avs h) (Qw D cI cZ base ad post) 0 0 (fun q => base ≤ q)
section ROWS
variable {p : Program} {l : Launch} {e : Env} {R : Room} {s : State} {m : MethodId} {args : Array Value} {below : List Frame} {meth : Method} {c : Code} {H : Heap} {locs : List Loc} {cells slots : Nat} {Q : State → Prop}
variable {cc : ByteArray} {pc nL : Nat} {ls : Array Slot} {rest : List Value} {D : va_G} {cI cZ : ClassId} {base : Nat} {ad : Nat → Nat} {S : List sh_E} {h : HH} {own : String}
theorem r_geti (X : CallFix p m c cc nL s args TB own) (K : KK D cI cZ s) (hw : Hw D cI cZ base ad s S h H locs) {idx ci k : Nat} (F : FG own idx ci k) {i : Nat} {ks : List Nat} (hs : S[i]? = some (.inr (ci, ks))) (hk : ks[k]? = some 0) (hdg : decode cc pc = .ok (.getfield idx, 3))
    (kk : W p l e R s m args below meth c H locs cells slots Q (F0 m (pc + 3) ls (.int (h i k) :: rest))) : W p l e R s m args below meth c H locs cells slots Q (F0 m pc ls (.ref (ad i) :: rest)) := by
  obtain ⟨C, T, N, h1, h2, h3, h4⟩ := F
  refine va_get (D := D) (own := own) (ref := (T k).1) X.1 X.2.1 X.2.2.2.2 h3 X.2.2.2.1 K.1 hw.1 i (wld_at hs) h1 k h2 (X.2.2.2.2 _ h4) (fun _ h9 => h9) (v := .int (h i k)) ?_ hdg kk
  rw [List.getElem?_mapIdx, hk]
  rfl
theorem r_getr (X : CallFix p m c cc nL s args TB own) (K : KK D cI cZ s) (hw : Hw D cI cZ base ad s S h H locs) {idx ci k : Nat} (F : FG own idx ci k) {i j : Nat} {ks : List Nat} (hs : S[i]? = some (.inr (ci, ks))) (hk : ks[k]? = some (j + 2)) (hdg : decode cc pc = .ok (.getfield idx, 3))
    (kk : W p l e R s m args below meth c H locs cells slots Q (F0 m (pc + 3) ls (.ref (ad j) :: rest))) : W p l e R s m args below meth c H locs cells slots Q (F0 m pc ls (.ref (ad i) :: rest)) := by
  obtain ⟨C, T, N, h1, h2, h3, h4⟩ := F
  refine va_get (D := D) (own := own) (ref := (T k).1) X.1 X.2.1 X.2.2.2.2 h3 X.2.2.2.1 K.1 hw.1 i (wld_at hs) h1 k h2 (X.2.2.2.2 _ h4) (fun _ h9 => h9) (v := .ref (ad j)) ?_ hdg kk
  rw [List.getElem?_mapIdx, hk]
  rfl
theorem r_put (X : CallFix p m c cc nL s args TB own) (K : KK D cI cZ s) (hw : Hw D cI cZ base ad s S h H locs) {idx ci k : Nat} {ty : FieldType} (F : FP own idx ci k ty) {i : Nat} {ks : List Nat} (hs : S[i]? = some (.inr (ci, ks))) (hk : ks[k]? = some 0) {v : Int32} (hn : narrow ty (.int v) = .int v) (hf : fits ty (.int v) = true) (hdg : decode cc pc = .ok (.putfield idx, 3))
    (kk : ∀ (H1 : Heap) (locs1 : List Loc), Hw D cI cZ base ad s S (u2 h i k v) H1 locs1 → W p l e R s m args below meth c H1 locs1 cells slots Q (F0 m (pc + 3) ls rest)) : W p l e R s m args below meth c H locs cells slots Q (F0 m pc ls (.int v :: .ref (ad i) :: rest)) := by
  obtain ⟨C, T, N, tf, h1, h2, h3, h4, h5, h6, h7, h8⟩ := F
  have hl : k < (ks.mapIdx (mk_f ad h i)).length := by
    rw [List.length_mapIdx]
    exact (List.getElem?_eq_some_iff.mp hk).1
  refine va_put (D := D) (own := own) (ref := (T k).1) X.1 X.2.1 X.2.2.2.2 h3 tf h5 h6 X.2.2.2.1 K.1 hw.1 (wld_D hw.2.2) hw.2.1 i (wld_at hs) h1 k h2 (X.2.2.2.2 _ h4) (fun _ h9 => h9) h7 h8 hn hf hl hdg (fun H1 locs1 hP hD hS => kk H1 locs1 ⟨?_, hS, hw.2.2⟩)
  rw [wld_set (k := k) (v := v) hs (show (.inr (ci, (ks.mapIdx (mk_f ad h i)).set k (.int v)) : va_E) = mk_v cI cZ ad (u2 h i k v) i (.inr (ci, ks)) by rw [mk_put hk v]; rfl)] at hP
  exact hP
theorem r_ald (X : CallFix p m c cc nL s args TB own) (K : KK D cI cZ s) (hw : Hw D cI cZ base ad s S h H locs) {i n : Nat} (hs : S[i]? = some (.inl (n, false))) {j : Int32} (hin : vp_in j n) (hdg : decode cc pc = .ok (.iaload, 1))
    (kk : W p l e R s m args below meth c H locs cells slots Q (F0 m (pc + 1) ls (.int (h i (ix j)) :: rest))) : W p l e R s m args below meth c H locs cells slots Q (F0 m pc ls (.int j :: .ref (ad i) :: rest)) :=
  va_iald X.1 X.2.1 K.1 hw.1 i 0 (wld_at hs) rfl hin hdg kk
theorem r_aldz (X : CallFix p m c cc nL s args TB own) (K : KK D cI cZ s) (hw : Hw D cI cZ base ad s S h H locs) {i n : Nat} (hs : S[i]? = some (.inl (n, true))) {j : Int32} (hin : vp_in j n) (hdg : decode cc pc = .ok (.baload, 1))
    (kk : W p l e R s m args below meth c H locs cells slots Q (F0 m (pc + 1) ls (.int (h i (ix j)) :: rest))) : W p l e R s m args below meth c H locs cells slots Q (F0 m pc ls (.int j :: .ref (ad i) :: rest)) :=
  va_zald X.1 X.2.1 K.1 hw.1 i 1 (wld_at hs) rfl hin hdg kk
theorem upd_row (h : HH) (i k : Nat) (v : Int32) : upd (h i) k v = u2 h i k v i := by
  funext b
  by_cases hb : b = k
  · subst hb; simp [upd, u2]
  · simp [upd, u2, hb]
theorem r_ast (X : CallFix p m c cc nL s args TB own) (K : KK D cI cZ s) (hw : Hw D cI cZ base ad s S h H locs) {i n : Nat} (hs : S[i]? = some (.inl (n, false))) {j v : Int32} (hin : vp_in j n) (hdg : decode cc pc = .ok (.iastore, 1))
    (kk : ∀ (H1 : Heap) (locs1 : List Loc), Hw D cI cZ base ad s S (u2 h i (ix j) v) H1 locs1 → W p l e R s m args below meth c H1 locs1 cells slots Q (F0 m (pc + 1) ls rest)) : W p l e R s m args below meth c H locs cells slots Q (F0 m pc ls (.int v :: .int j :: .ref (ad i) :: rest)) := by
  refine va_iast X.1 X.2.1 K.1 hw.1 (wld_D hw.2.2) hw.2.1 i 0 (wld_at hs) rfl hin hdg (fun H1 locs1 hP hD hS => kk H1 locs1 ⟨?_, hS, hw.2.2⟩)
  rw [upd_row] at hP
  have hP2 : va_P D vwCl ((wld S cI cZ ad h).set i (ad i, .inl (cI, n, .inl (u2 h i (ix j) v i)))) H1 := hP
  rw [wld_set (k := ix j) (v := v) (w := .inl (cI, n, .inl (u2 h i (ix j) v i))) hs rfl] at hP2
  exact hP2
theorem r_astz (X : CallFix p m c cc nL s args TB own) (K : KK D cI cZ s) (hw : Hw D cI cZ base ad s S h H locs) {i n : Nat} (hs : S[i]? = some (.inl (n, true))) {j v : Int32} (hin : vp_in j n) (hv : vp_nar .boolean v = v) (hdg : decode cc pc = .ok (.bastore, 1))
    (kk : ∀ (H1 : Heap) (locs1 : List Loc), Hw D cI cZ base ad s S (u2 h i (ix j) v) H1 locs1 → W p l e R s m args below meth c H1 locs1 cells slots Q (F0 m (pc + 1) ls rest)) : W p l e R s m args below meth c H locs cells slots Q (F0 m pc ls (.int v :: .int j :: .ref (ad i) :: rest)) := by
  refine va_zast X.1 X.2.1 K.1 hw.1 (wld_D hw.2.2) hw.2.1 i 1 (wld_at hs) rfl hin hdg (fun H1 locs1 hP hD hS => kk H1 locs1 ⟨?_, hS, hw.2.2⟩)
  rw [hv, upd_row] at hP
  have hP2 : va_P D vwCl ((wld S cI cZ ad h).set i (ad i, .inl (cZ, n, .inl (u2 h i (ix j) v i)))) H1 := hP
  rw [wld_set (k := ix j) (v := v) (w := .inl (cZ, n, .inl (u2 h i (ix j) v i))) hs rfl] at hP2
  exact hP2
theorem r_istore_n (X : CallFix p m c cc nL s args TB own) {vs : List (Option Value)} (hl : Lc ls nL vs) {k : Fin 4} {i : Nat} {x : Int32} (hdg : decode cc pc = .ok (.istore_n k, 1)) (hi : (k : Nat) = i) (hn : i < nL)
    (kk : ∀ ls' : Array Slot, Lc ls' nL (vs.set i (some (.int x))) → W p l e R s m args below meth c H locs cells slots Q (F0 m (pc + 1) ls' rest)) : W p l e R s m args below meth c H locs cells slots Q (F0 m pc ls (.int x :: rest)) :=
  lv_istore_n X.1 X.2.1 hdg hi hl.has hn rfl (fun ls' h' => kk ls' (hl.put rfl h'))
theorem r_istore (X : CallFix p m c cc nL s args TB own) {vs : List (Option Value)} (hl : Lc ls nL vs) {i : Nat} {x : Int32} (hdg : decode cc pc = .ok (.istore i, 2)) (hn : i < nL)
    (kk : ∀ ls' : Array Slot, Lc ls' nL (vs.set i (some (.int x))) → W p l e R s m args below meth c H locs cells slots Q (F0 m (pc + 2) ls' rest)) : W p l e R s m args below meth c H locs cells slots Q (F0 m pc ls (.int x :: rest)) :=
  lv_istore X.1 X.2.1 hdg hl.has hn rfl (fun ls' h' => kk ls' (hl.put rfl h'))
theorem r_astore_n (X : CallFix p m c cc nL s args TB own) {vs : List (Option Value)} (hl : Lc ls nL vs) {k : Fin 4} {i : Nat} {x : Nat} (hdg : decode cc pc = .ok (.astore_n k, 1)) (hi : (k : Nat) = i) (hn : i < nL)
    (kk : ∀ ls' : Array Slot, Lc ls' nL (vs.set i (some (.ref x))) → W p l e R s m args below meth c H locs cells slots Q (F0 m (pc + 1) ls' rest)) : W p l e R s m args below meth c H locs cells slots Q (F0 m pc ls (.ref x :: rest)) :=
  lv_astore_n X.1 X.2.1 hdg hi hl.has hn rfl (fun ls' h' => kk ls' (hl.put rfl h'))
theorem r_astore (X : CallFix p m c cc nL s args TB own) {vs : List (Option Value)} (hl : Lc ls nL vs) {i : Nat} {x : Nat} (hdg : decode cc pc = .ok (.astore i, 2)) (hn : i < nL)
    (kk : ∀ ls' : Array Slot, Lc ls' nL (vs.set i (some (.ref x))) → W p l e R s m args below meth c H locs cells slots Q (F0 m (pc + 2) ls' rest)) : W p l e R s m args below meth c H locs cells slots Q (F0 m pc ls (.ref x :: rest)) :=
  lv_astore X.1 X.2.1 hdg hl.has hn rfl (fun ls' h' => kk ls' (hl.put rfl h'))
theorem lv_iincL (hexec : p.tables.exec = Jvm.exec) (hb : c.code = cc) {vs : List (Option Value)} (hl : Lc ls nL vs) {i : Nat} {n : Int} {x v : Int32} (hdg : decode cc pc = .ok (.iinc i n, 3)) (hk : vs[i]? = some (some (.int x))) (hv : x + Int32.ofInt n = v) (hn : i < nL)
    (kk : ∀ ls' : Array Slot, Lc ls' nL (vs.set i (some (.int v))) → W p l e R s m args below meth c H locs cells slots Q (F0 m (pc + 3) ls' rest)) : W p l e R s m args below meth c H locs cells slots Q (F0 m pc ls rest) := by
  have hm := Lx_mem vs 0 i (.int x) hk
  rw [Nat.zero_add] at hm
  obtain ⟨k, hk'⟩ := List.getElem?_of_mem hm
  exact lv_iinc hexec hb (k := k) hdg hl.has hk' hv hn rfl (fun ls' h' => kk ls' (hl.put rfl h'))
theorem good_code {y : MethodName} {bytes : ByteArray} {maxL : Nat} {ret : Option FieldType} (hc : Cond.code y bytes maxL ret ∈ TB) : GoodIn TB (Cond.code y bytes maxL ret :: TB) := by
  intro w hw
  rcases List.mem_cons.mp hw with rfl | hw
  · exact ⟨hc, good_TB _ hc⟩
  · exact ⟨hw, good_TB _ hw⟩
theorem Pw_blind {avs : List Value} : FrameBlind (Pw D cI cZ base ad avs h) := fun a U g mk q => ⟨q.1, q.2.1, ⟨va_K.moved (u := U) (U := U.calling g mk a) (Vm.Alike.refl U.vm) q.2.2.1.1, va_Nw.same rfl rfl q.2.2.1.2⟩, q.2.2.2⟩
theorem r_run {post : Option Value → HH → Prop} {a : Array Value} {st0 : List Value} (hw : Hw D cI cZ base ad s shape h H locs) (hr : va_Run p l e R s m args below meth c H locs cells slots 0 0 (F0 m pc ls st0) rest (Qw D cI cZ base ad post a) (fun q => base ≤ q))
    (kk : ∀ (v : Option Value) (h' : HH) (H1 : Heap) (locs1 : List Loc), post v h' → Hw D cI cZ base ad s shape h' H1 locs1 → W p l e R s m args below meth c H1 locs1 cells slots Q (F0 m (pc + 3) ls (v.toList ++ rest))) : W p l e R s m args below meth c H locs cells slots Q (F0 m pc ls st0) := by
  intro T hT X
  obtain ⟨v, st₀, t, T', L, h0, X', hL, e1, e2, ⟨⟨v', h', hv, hp, hb⟩, hz, hk⟩, st⟩ := hr T hT X
  cases hv
  rw [h0] at hz hk
  obtain ⟨t2, a1, b1⟩ := kk v h' T'.heap (locs ++ L) hp ⟨by rw [e1]; exact hb, ⟨Nat.le_trans hw.2.1.1 (by rw [e1]; exact hz), fun q h1 h2 => by rw [e1, hk q (Nat.lt_of_lt_of_le h1 hw.2.1.1) h2]; exact hw.2.1.2.1 q h1 h2, fun q hq => by
      rcases List.mem_append.mp hq with h | h
      · exact hw.2.1.2.2 q h
      · exact hL q h⟩, hw.2.2⟩ T' rfl X'
  exact ⟨t2, st t2 a1, b1⟩
theorem r_callS (X : CallFix p m c cc nL s args TB own) (K : KK D cI cZ s) (hw : Hw D cI cZ base ad s shape h H locs) (hl : ls.size = nL) {idx : Nat} {y : MethodName} {bytes : ByteArray} {maxL n d lw : Nat} {ret : Option FieldType} (M : MF own idx y bytes maxL ret n ∧ Cond.static y ∈ TB) {avs : List Value} {post : Option Value → HH → Prop} (hC : Ct l D cI cZ base ad y bytes maxL ret d lw avs h post)
    (hR : d + 1 ≤ R.frames ∧ 8 + (maxL + 11) + lw ≤ R.locals) (hcs : cells ≤ R.cells ∧ slots ≤ R.slots) (hn : avs.length = n) {st0 : List Value} (hst : st0 = avs.reverse ++ rest) (hrm : (rest.map fun v => v.category).sum ≤ 8) (hdg : decode cc pc = .ok (.invokestatic idx, 3))
    (kk : ∀ (v : Option Value) (h' : HH) (H1 : Heap) (locs1 : List Loc), post v h' → Hw D cI cZ base ad s shape h' H1 locs1 → W p l e R s m args below meth c H1 locs1 cells slots Q (F0 m (pc + 3) ls (v.toList ++ rest))) : W p l e R s m args below meth c H locs cells slots Q (F0 m pc ls st0) := by
  obtain ⟨⟨m1, m2, m3, m4⟩, m5⟩ := M
  have hts := X.2.2.2.2
  exact r_run hw (va_runS X hC ⟨callB_of n hts (good_code m2) rfl rfl rfl (hts _ m3) (hts _ m1) m4 hR, hts _ m5⟩ ⟨Pw_blind, fun U hU hW => ⟨rfl, by rw [hU]; exact hw.1, KK.moved hW K, hw.2.2⟩⟩ rfl hn hl hst (lv_room hrm) hdg hcs) kk
theorem r_callSN (X : CallFix p m c cc nL s args TB own) (K : KK D cI cZ s) (hw : Hw D cI cZ base ad s shape h H locs) (hl : ls.size = nL) {idx : Nat} {y : MethodName} {host : String} {bytes : ByteArray} {maxL n d lw : Nat} {ret : Option FieldType} (hN : va_Nw (.methodLinkNest own idx y host) s) (M : MN y bytes maxL ret n ∧ Cond.static y ∈ TB) {avs : List Value} {post : Option Value → HH → Prop} (hC : Ct l D cI cZ base ad y bytes maxL ret d lw avs h post)
    (hR : d + 1 ≤ R.frames ∧ 8 + (maxL + 11) + lw ≤ R.locals) (hcs : cells ≤ R.cells ∧ slots ≤ R.slots) (hn : avs.length = n) {st0 : List Value} (hst : st0 = avs.reverse ++ rest) (hrm : (rest.map fun v => v.category).sum ≤ 8) (hdg : decode cc pc = .ok (.invokestatic idx, 3))
    (kk : ∀ (v : Option Value) (h' : HH) (H1 : Heap) (locs1 : List Loc), post v h' → Hw D cI cZ base ad s shape h' H1 locs1 → W p l e R s m args below meth c H1 locs1 cells slots Q (F0 m (pc + 3) ls (v.toList ++ rest))) : W p l e R s m args below meth c H locs cells slots Q (F0 m pc ls st0) := by
  obtain ⟨⟨m2, m3, m4⟩, m5⟩ := M
  have hts := X.2.2.2.2
  exact r_run hw (va_runSN X hC ⟨va_cnB n hts (good_code m2) rfl rfl rfl hN (hts _ m3) m4 hR, hts _ m5, trivial⟩ ⟨Pw_blind, fun U hU hW => ⟨rfl, by rw [hU]; exact hw.1, KK.moved hW K, hw.2.2⟩⟩ rfl hn hl hst (lv_room hrm) hdg hcs) kk
theorem r_callV (X : CallFix p m c cc nL s args TB own) (K : KK D cI cZ s) (hw : Hw D cI cZ base ad s shape h H locs) (hl : ls.size = nL) {idx : Nat} {y : MethodName} {bytes : ByteArray} {maxL n d lw : Nat} {ret : Option FieldType} (M : MF own idx y bytes maxL ret n ∧ Cond.instanceMethod y ∈ TB ∧ Cond.selects y.cls y y ∈ TB) {i ci : Nat} {ks : List Nat} {q : vw_C} (hs : shape[i]? = some (.inr (ci, ks))) (hc : vwCl[ci]? = some q) (hq : q.1 = y.cls) {As : List Value} {post : Option Value → HH → Prop} (hC : Ct l D cI cZ base ad y bytes maxL ret d lw (.ref (ad i) :: As) h post)
    (hR : d + 1 ≤ R.frames ∧ 8 + (maxL + 11) + lw ≤ R.locals) (hcs : cells ≤ R.cells ∧ slots ≤ R.slots) (hn : As.length = n) {st0 : List Value} (hst : st0 = As.reverse ++ .ref (ad i) :: rest) (hrm : (rest.map fun v => v.category).sum ≤ 8) (hdg : decode cc pc = .ok (.invokevirtual idx, 3))
    (kk : ∀ (v : Option Value) (h' : HH) (H1 : Heap) (locs1 : List Loc), post v h' → Hw D cI cZ base ad s shape h' H1 locs1 → W p l e R s m args below meth c H1 locs1 cells slots Q (F0 m (pc + 3) ls (v.toList ++ rest))) : W p l e R s m args below meth c H locs cells slots Q (F0 m pc ls st0) := by
  obtain ⟨⟨m1, m2, m3, m4⟩, m5, m6⟩ := M
  have hts := X.2.2.2.2
  have hrecv := va_recv K.1 hw.1 hc (wld_at hs)
  rw [hq] at hrecv
  exact r_run hw (va_runV (C := y.cls) X hC ⟨callB_of n hts (good_code m2) rfl rfl rfl (hts _ m3) (hts _ m1) m4 hR, hts _ m5, hts _ m6⟩ ⟨Pw_blind, hrecv, fun U hU hW => ⟨rfl, by rw [hU]; exact hw.1, KK.moved hW K, hw.2.2⟩⟩ rfl hn hl hst (lv_room hrm) hdg hcs) kk
theorem r_iret {post : Option Value → HH → Prop} {v : Int32} (X : CallFix p m c cc nL s args TB own) (hr : meth.sig.returnType = some .int) (hk : meth.locks = false) (hw : Hw D cI cZ base ad s shape h H locs) (hp : post (some (.int v)) h) (hdg : decode cc pc = .ok (.ireturn, 1)) : W p l e R s m args below meth c H locs cells slots (MQ below (Qw D cI cZ base ad post) args s cells slots (fun q => base ≤ q)) (F0 m pc ls [.int v]) :=
  W.iret X.1 X.2.1 hr (fun t ht hW => ⟨⟨_, h, rfl, hp, by rw [ht]; exact hw.1⟩, hw.2.1.F ht⟩) hw.2.1.2.2 hdg hk
theorem r_zret {post : Option Value → HH → Prop} {v : Int32} (X : CallFix p m c cc nL s args TB own) (hr : meth.sig.returnType = some .boolean) (hk : meth.locks = false) (hw : Hw D cI cZ base ad s shape h H locs) (hn : narrow .boolean (.int v) = .int v) (hp : post (some (.int v)) h) (hdg : decode cc pc = .ok (.ireturn, 1)) : W p l e R s m args below meth c H locs cells slots (MQ below (Qw D cI cZ base ad post) args s cells slots (fun q => base ≤ q)) (F0 m pc ls [.int v]) :=
  W.zret X.1 X.2.1 hr hn (fun t ht hW => ⟨⟨_, h, rfl, hp, by rw [ht]; exact hw.1⟩, hw.2.1.F ht⟩) hw.2.1.2.2 hdg hk
theorem r_lret {post : Option Value → HH → Prop} {v : Int64} (X : CallFix p m c cc nL s args TB own) (hr : meth.sig.returnType = some .long) (hk : meth.locks = false) (hw : Hw D cI cZ base ad s shape h H locs) (hp : post (some (.long v)) h) (hdg : decode cc pc = .ok (.lreturn, 1)) : W p l e R s m args below meth c H locs cells slots (MQ below (Qw D cI cZ base ad post) args s cells slots (fun q => base ≤ q)) (F0 m pc ls [.long v]) :=
  W.lret X.1 X.2.1 hr (fun t ht hW => ⟨⟨_, h, rfl, hp, by rw [ht]; exact hw.1⟩, hw.2.1.F ht⟩) hw.2.1.2.2 hdg hk
theorem r_vret {post : Option Value → HH → Prop} (X : CallFix p m c cc nL s args TB own) (hr : meth.sig.returnType = none) (hk : meth.locks = false) (hw : Hw D cI cZ base ad s shape h H locs) (hp : post none h) (hdg : decode cc pc = .ok (.return_, 1)) : W p l e R s m args below meth c H locs cells slots (MQ below (Qw D cI cZ base ad post) args s cells slots (fun q => base ≤ q)) (F0 m pc ls []) :=
  W.vret X.1 X.2.1 hr (fun t ht hW => ⟨⟨_, h, rfl, hp, by rw [ht]; exact hw.1⟩, hw.2.1.F ht⟩) hw.2.1.2.2 hdg hk
theorem r_aret {post : Option Value → HH → Prop} {x : Nat} {rt : FieldType} (X : CallFix p m c cc nL s args TB own) (hr : meth.sig.returnType = some rt) (hrt : (∃ n, rt = .object n) ∨ ∃ t, rt = .array t) (hk : meth.locks = false) (hw : Hw D cI cZ base ad s shape h H locs) (hp : post (some (.ref x)) h) (hdg : decode cc pc = .ok (.areturn, 1)) : W p l e R s m args below meth c H locs cells slots (MQ below (Qw D cI cZ base ad post) args s cells slots (fun q => base ≤ q)) (F0 m pc ls [.ref x]) :=
  W.aret X.1 X.2.1 hr hrt (Or.inr ⟨x, rfl⟩) (fun t ht hW => ⟨⟨_, h, rfl, hp, by rw [ht]; exact hw.1⟩, hw.2.1.F ht⟩) hw.2.1.2.2 hdg hk
theorem Ct.of {l : Launch} {y : MethodName} {bytes : ByteArray} {maxL d lw : Nat} {ret : Option FieldType} {avs : List Value} {post : Option Value → HH → Prop} (hy : plainName y.cls = true) (hav : (lg_sl avs).length ≤ maxL) (hcat : ∀ v ∈ avs, v.category = 1)
    (body : ∀ (p : Program) (e : Env) (s : State) (m : MethodId) (args : Array Value) (below : List Frame) (meth : Method) (c : Code) (ls : Array Slot), CallFix p m c bytes maxL s args TB y.cls → KK D cI cZ s → meth.sig.returnType = ret → meth.locks = false → Lc ls maxL (avs.map some ++ List.replicate (maxL - avs.length) none) → Hw D cI cZ base ad s shape h s.heap [] →
      W p l e (rmD d lw) s m args below meth c s.heap [] 0 0 (MQ below (Qw D cI cZ base ad post) args s 0 0 (fun q => base ≤ q)) (F0 m 0 ls [])) : Ct l D cI cZ base ad y bytes maxL ret d lw avs h post := by
  refine Met.ofW (cc := bytes) (maxL := maxL) (ret := ret) hy rfl ?_
  intro p e s m args below meth c s₁ B hml hv
  obtain ⟨rfl, hP, hK, hA⟩ := hv
  have hts := atoms_spec (ws := Cond.code y bytes maxL ret :: TB) B.pre
  have hl := lv_entry avs (n := maxL) hav
  rw [lg_entry_eq]
  generalize (lg_sl avs ++ List.replicate (maxL - (lg_sl avs).length) Slot.unset).toArray = ls at hl ⊢
  refine body p e s m _ below meth c ls ⟨B.exec, B.bytes, hml, findClass_of_methodNamed B.named, fun w hw => hts w (List.mem_cons_of_mem _ hw)⟩ hK B.returns B.notSynchronized (Lc_entry hcat hl) ⟨hP, va_S.rf, hA⟩
end ROWS
def pI (h0 : HH) (ρ : Int32) : Option Value → HH → Prop := fun v h' => v = some (.int ρ) ∧ h0 = h'
def pIH (ρ : Int32 × HH) : Option Value → HH → Prop := fun v h' => v = some (.int ρ.1) ∧ ρ.2 = h'
def pH (ρ : HH) : Option Value → HH → Prop := fun v h' => v = none ∧ ρ = h'
def pJ (h0 : HH) (ρ : Int64) : Option Value → HH → Prop := fun v h' => v = some (.long ρ) ∧ h0 = h'
def pR (ad : Nat → Nat) (h0 : HH) (ρ : Nat) : Option Value → HH → Prop := fun v h' => v = some (.ref (ad ρ)) ∧ h0 = h'
