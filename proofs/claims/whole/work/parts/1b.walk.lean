section WALK
variable {p : Program} {l : Launch} {e : Env} {s : State} {m : MethodId} {args : Array Value} {below : List Frame} {meth : Method} {c : Code} {D : va_G} {cI cZ : ClassId} {base : Nat} {ad : Nat → Nat} {R : Room} {Q : State → Prop} {cells slots : Nat}
set_option maxHeartbeats 4000000 in
set_option maxRecDepth 100000 in
theorem w_V_endUpAlone_69 (fz : Nat) (i2 : Nat) (n2 : isN i2) (h : HH) (ρ : HH) (hρ : B_V_endUpAlone_69 fz i2 h = ρ) (hp : P_V_endUpAlone_69 fz i2 h) (X : CallFix p m c b_V_endUpAlone 3 s args TB R_V) (K : KK D cI cZ s) (hr : meth.sig.returnType = none) (hk : meth.locks = false) {ls : Array Slot} {H : Heap} {locs : List Loc} (hl : Lc ls 3 [some (.ref (ad 0)), none, some (.ref (ad i2))]) (hw : Hw D cI cZ base ad s shape h H locs) : W p l e (rmD 1 21) s m args below meth c H locs 0 0 (MQ below (Qw D cI cZ base ad (pH ρ)) args s 0 0 (fun q => base ≤ q)) (F0 m 69 ls []) := by
  unfold B_V_endUpAlone_69 at hρ
  unfold P_V_endUpAlone_69 at hp
  refine lv_aload_n X.1 X.2.1 d_V_endUpAlone_69 rfl (hl.at 2 rfl) ?_
  refine lv_aload_n X.1 X.2.1 d_V_endUpAlone_70 rfl (hl.at 0 rfl) ?_
  refine r_geti X K hw fg_V_32 rfl rfl d_V_endUpAlone_71 ?_
  refine r_put X K hw fp_V_197 (shp_N n2) rfl rfl rfl d_V_endUpAlone_74 (fun H locs hw => ?_)
  exact r_vret X hr hk hw ⟨rfl, hρ.symm⟩ d_V_endUpAlone_77
set_option maxHeartbeats 4000000 in
set_option maxRecDepth 100000 in
theorem w_V_endUpAlone_59 (fz : Nat) (i2 : Nat) (n2 : isN i2) (h : HH) (ρ : HH) (hρ : B_V_endUpAlone_59 fz i2 h = ρ) (hp : P_V_endUpAlone_59 fz i2 h) (X : CallFix p m c b_V_endUpAlone 3 s args TB R_V) (K : KK D cI cZ s) (hr : meth.sig.returnType = none) (hk : meth.locks = false) {ls : Array Slot} {H : Heap} {locs : List Loc} (hl : Lc ls 3 [some (.ref (ad 0)), none, some (.ref (ad i2))]) (hw : Hw D cI cZ base ad s shape h H locs) : W p l e (rmD 1 21) s m args below meth c H locs 0 0 (MQ below (Qw D cI cZ base ad (pH ρ)) args s 0 0 (fun q => base ≤ q)) (F0 m 59 ls []) := by
  unfold B_V_endUpAlone_59 at hρ
  unfold P_V_endUpAlone_59 at hp
  refine lv_aload_n X.1 X.2.1 d_V_endUpAlone_59 rfl (hl.at 0 rfl) ?_
  refine lv_dup X.1 X.2.1 d_V_endUpAlone_60 rfl ?_
  refine r_geti X K hw fg_V_32 rfl rfl d_V_endUpAlone_61 ?_
  refine lv_iconst (v := (1 : Int32)) X.1 X.2.1 d_V_endUpAlone_64 (by decide) ?_
  refine lv_iadd X.1 X.2.1 d_V_endUpAlone_65 ?_
  refine r_put X K hw fp_V_32 rfl rfl rfl rfl d_V_endUpAlone_66 (fun H locs hw => ?_)
  exact w_V_endUpAlone_69 fz i2 n2 (u2 h 0 4 ((h 0 4) + (1 : Int32))) ρ hρ hp X K hr hk hl hw
set_option maxHeartbeats 4000000 in
set_option maxRecDepth 100000 in
theorem w_V_endUpAlone_44 (fz : Nat) (i2 : Nat) (n2 : isN i2) (h : HH) (ρ : HH) (hρ : B_V_endUpAlone_44 fz i2 h = ρ) (hp : P_V_endUpAlone_44 fz i2 h) (X : CallFix p m c b_V_endUpAlone 3 s args TB R_V) (K : KK D cI cZ s) (hr : meth.sig.returnType = none) (hk : meth.locks = false) {ls : Array Slot} {H : Heap} {locs : List Loc} (hl : Lc ls 3 [some (.ref (ad 0)), none, some (.ref (ad i2))]) (hw : Hw D cI cZ base ad s shape h H locs) : W p l e (rmD 1 21) s m args below meth c H locs 0 0 (MQ below (Qw D cI cZ base ad (pH ρ)) args s 0 0 (fun q => base ≤ q)) (F0 m 44 ls []) := by
  unfold B_V_endUpAlone_44 at hρ
  unfold P_V_endUpAlone_44 at hp
  refine lv_aload_n X.1 X.2.1 d_V_endUpAlone_44 rfl (hl.at 2 rfl) ?_
  refine r_geti X K hw fg_V_200 (shp_N n2) rfl d_V_endUpAlone_45 ?_
  refine lv_if_ne (tgt := 77) X.1 X.2.1 d_V_endUpAlone_48 (by decide) (fun g => ?_) (fun g => ?_)
  · rw [if_neg g] at hρ
    have hp := hp.2 g
    exact r_vret X hr hk hw ⟨rfl, hρ.symm⟩ d_V_endUpAlone_77
  · rw [if_pos g] at hρ
    have hp := hp.1 g
    refine lv_aload_n X.1 X.2.1 d_V_endUpAlone_51 rfl (hl.at 2 rfl) ?_
    refine lv_aload_n X.1 X.2.1 d_V_endUpAlone_52 rfl (hl.at 2 rfl) ?_
    refine r_geti X K hw fg_V_197 (shp_N n2) rfl d_V_endUpAlone_53 ?_
    refine r_put X K hw fp_V_200 (shp_N n2) rfl rfl rfl d_V_endUpAlone_56 (fun H locs hw => ?_)
    exact w_V_endUpAlone_59 fz i2 n2 (u2 h i2 7 (h i2 6)) ρ hρ hp X K hr hk hl hw
set_option maxHeartbeats 4000000 in
set_option maxRecDepth 100000 in
theorem w_V_endUpAlone_10 (fz : Nat) (x1 : Int32) (h : HH) (ρ : HH) (hρ : B_V_endUpAlone_10 fz x1 h = ρ) (hp : P_V_endUpAlone_10 fz x1 h) (X : CallFix p m c b_V_endUpAlone 3 s args TB R_V) (K : KK D cI cZ s) (hr : meth.sig.returnType = none) (hk : meth.locks = false) {ls : Array Slot} {H : Heap} {locs : List Loc} (hl : Lc ls 3 [some (.ref (ad 0)), some (.int x1), none]) (hw : Hw D cI cZ base ad s shape h H locs) : W p l e (rmD 1 21) s m args below meth c H locs 0 0 (MQ below (Qw D cI cZ base ad (pH ρ)) args s 0 0 (fun q => base ≤ q)) (F0 m 10 ls []) := by
  unfold B_V_endUpAlone_10 at hρ
  unfold P_V_endUpAlone_10 at hp
  refine lv_aload_n X.1 X.2.1 d_V_endUpAlone_10 rfl (hl.at 0 rfl) ?_
  refine lv_aload_n X.1 X.2.1 d_V_endUpAlone_11 rfl (hl.at 0 rfl) ?_
  refine r_getr (j := 21) X K hw fg_V_24 rfl rfl d_V_endUpAlone_12 ?_
  refine r_getr (j := 22) X K hw fg_V_235 rfl rfl d_V_endUpAlone_15 ?_
  refine lv_iload_n X.1 X.2.1 d_V_endUpAlone_18 rfl (hl.at 1 rfl) ?_
  refine r_ald X K hw rfl hp.1 d_V_endUpAlone_19 ?_
  have hp := hp.2
  refine r_callV (rest := []) X K hw hl.1 mf_V_43 rfl rfl rfl (c_V_nodeOf l D cI cZ base ad fz (h 22 (ix x1)) h hp.1) (by decide) ⟨Nat.le_refl _, Nat.le_refl _⟩ rfl rfl (Nat.le_of_ble_eq_true rfl) d_V_endUpAlone_20 (fun v h' H locs q hw => ?_)
  obtain ⟨rfl, rfl⟩ := q
  have hp := hp.2
  refine r_astore_n X hl d_V_endUpAlone_23 rfl (by decide) (fun ls hl => ?_)
  have hl : Lc ls 3 [some (.ref (ad 0)), some (.int x1), some (.ref (ad (B_V_nodeOf fz (h 22 (ix x1)) h)))] := hl
  refine lv_aload_n X.1 X.2.1 d_V_endUpAlone_24 rfl (hl.at 2 rfl) ?_
  refine lv_dup X.1 X.2.1 d_V_endUpAlone_25 rfl ?_
  refine r_geti X K hw fg_V_166 (shp_N (isN_V_nodeOf fz (h 22 (ix x1)) h)) rfl d_V_endUpAlone_26 ?_
  refine lv_iconst (v := (1 : Int32)) X.1 X.2.1 d_V_endUpAlone_29 (by decide) ?_
  refine lv_aload_n X.1 X.2.1 d_V_endUpAlone_30 rfl (hl.at 0 rfl) ?_
  refine r_getr (j := 21) X K hw fg_V_24 rfl rfl d_V_endUpAlone_31 ?_
  refine r_getr (j := 23) X K hw fg_V_149 rfl rfl d_V_endUpAlone_34 ?_
  refine lv_iload_n X.1 X.2.1 d_V_endUpAlone_37 rfl (hl.at 1 rfl) ?_
  refine r_ald X K hw rfl hp.1 d_V_endUpAlone_38 ?_
  have hp := hp.2
  refine lv_ishl X.1 X.2.1 d_V_endUpAlone_39 ?_
  refine lv_ior X.1 X.2.1 d_V_endUpAlone_40 ?_
  refine r_put X K hw fp_V_166 (shp_N (isN_V_nodeOf fz (h 22 (ix x1)) h)) rfl rfl rfl d_V_endUpAlone_41 (fun H locs hw => ?_)
  have hl : Lc ls 3 [some (.ref (ad 0)), none, some (.ref (ad (B_V_nodeOf fz (h 22 (ix x1)) h)))] := hl.mask [true, false, true]
  exact w_V_endUpAlone_44 fz (B_V_nodeOf fz (h 22 (ix x1)) h) (isN_V_nodeOf fz (h 22 (ix x1)) h) (u2 h (B_V_nodeOf fz (h 22 (ix x1)) h) 5 ((h (B_V_nodeOf fz (h 22 (ix x1)) h) 5) ||| ((1 : Int32) <<< ((h 23 (ix x1)) &&& 31)))) ρ hρ hp X K hr hk hl hw
set_option maxHeartbeats 4000000 in
set_option maxRecDepth 100000 in
theorem w_V_endUpAlone (fz : Nat) (x1 : Int32) (h : HH) (ρ : HH) (hρ : B_V_endUpAlone fz x1 h = ρ) (hp : P_V_endUpAlone fz x1 h) (X : CallFix p m c b_V_endUpAlone 3 s args TB R_V) (K : KK D cI cZ s) (hr : meth.sig.returnType = none) (hk : meth.locks = false) {ls : Array Slot} {H : Heap} {locs : List Loc} (hl : Lc ls 3 [some (.ref (ad 0)), some (.int x1), none]) (hw : Hw D cI cZ base ad s shape h H locs) : W p l e (rmD 1 21) s m args below meth c H locs 0 0 (MQ below (Qw D cI cZ base ad (pH ρ)) args s 0 0 (fun q => base ≤ q)) (F0 m 0 ls []) := by
  unfold B_V_endUpAlone at hρ
  unfold P_V_endUpAlone at hp
  refine lv_aload_n X.1 X.2.1 d_V_endUpAlone_0 rfl (hl.at 0 rfl) ?_
  refine r_getr (j := 21) X K hw fg_V_24 rfl rfl d_V_endUpAlone_1 ?_
  refine r_getr (j := 26) X K hw fg_V_206 rfl rfl d_V_endUpAlone_4 ?_
  refine lv_iload_n X.1 X.2.1 d_V_endUpAlone_7 rfl (hl.at 1 rfl) ?_
  refine lv_iconst (v := (3 : Int32)) X.1 X.2.1 d_V_endUpAlone_8 (by decide) ?_
  refine r_ast X K hw rfl hp.1 d_V_endUpAlone_9 (fun H locs hw => ?_)
  have hp := hp.2
  exact w_V_endUpAlone_10 fz x1 (u2 h 26 (ix x1) (3 : Int32)) ρ hρ hp X K hr hk hl hw
set_option maxRecDepth 100000 in
theorem c_V_endUpAlone (l : Launch) (D : va_G) (cI cZ : ClassId) (base : Nat) (ad : Nat → Nat) (fz : Nat) (x1 : Int32) (h : HH) (hp : P_V_endUpAlone fz x1 h) : Ct l D cI cZ base ad y_V_endUpAlone b_V_endUpAlone 3 none 1 21 [.ref (ad 0), .int x1] h (pH (B_V_endUpAlone fz x1 h)) := by
  refine Ct.of (by decide) (Nat.le_of_ble_eq_true rfl) (cat_ok rfl) ?_
  intro p e s m args below meth c ls X K hr hk hl hw
  exact w_V_endUpAlone fz x1 h _ rfl hp X K hr hk hl hw
set_option maxHeartbeats 4000000 in
set_option maxRecDepth 100000 in
theorem w_V_write_154 (fz : Nat) (i4 : Nat) (n4 : isN i4) (y0 : Int32) (h : HH) (ρ : Int32 × HH) (hρ : B_V_write_154 fz i4 y0 h = ρ) (hp : P_V_write_154 fz i4 y0 h) (X : CallFix p m c b_V_write 10 s args TB R_V) (K : KK D cI cZ s) (hr : meth.sig.returnType = (some .int)) (hk : meth.locks = false) {ls : Array Slot} {H : Heap} {locs : List Loc} (hl : Lc ls 10 [some (.ref (ad 0)), none, none, none, some (.ref (ad i4)), none, none, none, none, none]) (hw : Hw D cI cZ base ad s shape h H locs) : W p l e (rmD 2 45) s m args below meth c H locs 0 0 (MQ below (Qw D cI cZ base ad (pIH ρ)) args s 0 0 (fun q => base ≤ q)) (F0 m 154 ls [.int y0]) := by
  unfold B_V_write_154 at hρ
  unfold P_V_write_154 at hp
  refine r_istore X hl d_V_write_154 (by decide) (fun ls hl => ?_)
  have hl : Lc ls 10 [some (.ref (ad 0)), none, none, none, some (.ref (ad i4)), none, none, none, none, some (.int y0)] := hl
  refine lv_aload_n X.1 X.2.1 d_V_write_156 rfl (hl.at 0 rfl) ?_
  refine r_geti X K hw fg_V_28 rfl rfl d_V_write_157 ?_
  refine lv_if_eq (tgt := 178) X.1 X.2.1 d_V_write_160 (by decide) (fun g => ?_) (fun g => ?_)
  · rw [if_pos g] at hρ
    have hp := hp.1 g
    refine lv_aload_n X.1 X.2.1 d_V_write_178 rfl (hl.at 0 rfl) ?_
    refine lv_iload X.1 X.2.1 d_V_write_179 (hl.at 9 rfl) ?_
    refine r_callV (rest := []) X K hw hl.1 mf_V_104 rfl rfl rfl (c_V_endUpAlone l D cI cZ base ad fz y0 h hp.1) (by decide) ⟨Nat.le_refl _, Nat.le_refl _⟩ rfl rfl (Nat.le_of_ble_eq_true rfl) d_V_write_181 (fun v h' H locs q hw => ?_)
    obtain ⟨rfl, rfl⟩ := q
    have hp := hp.2
    refine lv_iload X.1 X.2.1 d_V_write_184 (hl.at 9 rfl) ?_
    exact r_iret X hr hk hw ⟨congrArg (fun z => some (Value.int z.1)) hρ, (congrArg Prod.snd hρ).symm⟩ d_V_write_186
  · rw [if_neg g] at hρ
    have hp := hp.2 g
    refine lv_aload X.1 X.2.1 d_V_write_163 (hl.at 4 rfl) ?_
    refine r_getr (j := (i4 + 4)) X K hw fg_V_94 (shp_N n4) rfl d_V_write_165 ?_
    refine lv_iconst (v := (1 : Int32)) X.1 X.2.1 d_V_write_168 (by decide) ?_
    refine lv_iload X.1 X.2.1 d_V_write_169 (hl.at 9 rfl) ?_
    refine lv_iconst (v := (0 : Int32)) X.1 X.2.1 d_V_write_171 (by decide) ?_
    refine r_callV (rest := []) X K hw hl.1 mf_V_98 (shp_O n4) rfl rfl (c_O_send l D cI cZ base ad fz i4 n4 (1 : Int32) y0 (0 : Int32) h hp.1) (by decide) ⟨Nat.le_refl _, Nat.le_refl _⟩ rfl rfl (Nat.le_of_ble_eq_true rfl) d_V_write_172 (fun v h' H locs q hw => ?_)
    obtain ⟨rfl, rfl⟩ := q
    have hp := hp.2
    refine lv_goto (tgt := 184) X.1 X.2.1 d_V_write_175 (by decide) ?_
    refine lv_iload X.1 X.2.1 d_V_write_184 (hl.at 9 rfl) ?_
    exact r_iret X hr hk hw ⟨congrArg (fun z => some (Value.int z.1)) hρ, (congrArg Prod.snd hρ).symm⟩ d_V_write_186
set_option maxHeartbeats 4000000 in
set_option maxRecDepth 100000 in
theorem w_V_write_140 (fz : Nat) (x1 : Int32) (x2 : Int32) (x3 : Int32) (i4 : Nat) (n4 : isN i4) (y0 : Int32) (h : HH) (ρ : Int32 × HH) (hρ : B_V_write_140 fz x1 x2 x3 i4 y0 h = ρ) (hp : P_V_write_140 fz x1 x2 x3 i4 y0 h) (X : CallFix p m c b_V_write 10 s args TB R_V) (K : KK D cI cZ s) (hr : meth.sig.returnType = (some .int)) (hk : meth.locks = false) {ls : Array Slot} {H : Heap} {locs : List Loc} (hl : Lc ls 10 [some (.ref (ad 0)), some (.int x1), some (.int x2), some (.int x3), some (.ref (ad i4)), none, none, none, none, none]) (hw : Hw D cI cZ base ad s shape h H locs) : W p l e (rmD 2 45) s m args below meth c H locs 0 0 (MQ below (Qw D cI cZ base ad (pIH ρ)) args s 0 0 (fun q => base ≤ q)) (F0 m 140 ls [.int y0]) := by
  unfold B_V_write_140 at hρ
  unfold P_V_write_140 at hp
  refine r_istore X hl d_V_write_140 (by decide) (fun ls hl => ?_)
  have hl : Lc ls 10 [some (.ref (ad 0)), some (.int x1), some (.int x2), some (.int x3), some (.ref (ad i4)), none, none, none, some (.int y0), none] := hl
  refine lv_aload_n X.1 X.2.1 d_V_write_142 rfl (hl.at 0 rfl) ?_
  refine r_getr (j := 21) X K hw fg_V_24 rfl rfl d_V_write_143 ?_
  refine lv_iload_n X.1 X.2.1 d_V_write_146 rfl (hl.at 1 rfl) ?_
  refine lv_iload_n X.1 X.2.1 d_V_write_147 rfl (hl.at 2 rfl) ?_
  refine lv_iload_n X.1 X.2.1 d_V_write_148 rfl (hl.at 3 rfl) ?_
  refine lv_iload X.1 X.2.1 d_V_write_149 (hl.at 8 rfl) ?_
  refine r_callV (rest := []) X K hw hl.1 mf_V_90 rfl rfl rfl (c_T_accept l D cI cZ base ad fz x1 x2 x3 y0 h hp.1) (by decide) ⟨Nat.le_refl _, Nat.le_refl _⟩ rfl rfl (Nat.le_of_ble_eq_true rfl) d_V_write_151 (fun v h' H locs q hw => ?_)
  obtain ⟨rfl, rfl⟩ := q
  have hp := hp.2
  have hl : Lc ls 10 [some (.ref (ad 0)), none, none, none, some (.ref (ad i4)), none, none, none, none, none] := hl.mask [true, false, false, false, true, false, false, false, false, false]
  exact w_V_write_154 fz i4 n4 (B_T_accept fz x1 x2 x3 y0 h).1 (B_T_accept fz x1 x2 x3 y0 h).2 ρ hρ hp X K hr hk hl hw
set_option maxHeartbeats 4000000 in
set_option maxRecDepth 100000 in
theorem w_V_write_129 (fz : Nat) (x1 : Int32) (x2 : Int32) (x3 : Int32) (i4 : Nat) (n4 : isN i4) (x6 : Int32) (h : HH) (ρ : Int32 × HH) (hρ : B_V_write_129 fz x1 x2 x3 i4 x6 h = ρ) (hp : P_V_write_129 fz x1 x2 x3 i4 x6 h) (X : CallFix p m c b_V_write 10 s args TB R_V) (K : KK D cI cZ s) (hr : meth.sig.returnType = (some .int)) (hk : meth.locks = false) {ls : Array Slot} {H : Heap} {locs : List Loc} (hl : Lc ls 10 [some (.ref (ad 0)), some (.int x1), some (.int x2), some (.int x3), some (.ref (ad i4)), none, some (.int x6), none, none, none]) (hw : Hw D cI cZ base ad s shape h H locs) : W p l e (rmD 2 45) s m args below meth c H locs 0 0 (MQ below (Qw D cI cZ base ad (pIH ρ)) args s 0 0 (fun q => base ≤ q)) (F0 m 129 ls []) := by
  unfold B_V_write_129 at hρ
  unfold P_V_write_129 at hp
  refine lv_aload X.1 X.2.1 d_V_write_129 (hl.at 4 rfl) ?_
  refine lv_iload X.1 X.2.1 d_V_write_131 (hl.at 6 rfl) ?_
  refine lv_iload_n X.1 X.2.1 d_V_write_133 rfl (hl.at 2 rfl) ?_
  refine r_callS (rest := [.ref (ad i4)]) X K hw hl.1 mf_V_82 (c_V_hasBlock l D cI cZ base ad fz x6 x2 h hp.1) (by decide) ⟨Nat.le_refl _, Nat.le_refl _⟩ rfl rfl (Nat.le_of_ble_eq_true rfl) d_V_write_134 (fun v h' H locs q hw => ?_)
  obtain ⟨rfl, rfl⟩ := q
  have hp := hp.2
  refine r_callV (rest := []) X K hw hl.1 mf_V_86 (shp_N n4) rfl rfl (c_N_epochOfNextWrite l D cI cZ base ad fz i4 n4 (B_V_hasBlock fz x6 x2 h) h hp.1) (by decide) ⟨Nat.le_refl _, Nat.le_refl _⟩ rfl rfl (Nat.le_of_ble_eq_true rfl) d_V_write_137 (fun v h' H locs q hw => ?_)
  obtain ⟨rfl, rfl⟩ := q
  have hp := hp.2
  have hl : Lc ls 10 [some (.ref (ad 0)), some (.int x1), some (.int x2), some (.int x3), some (.ref (ad i4)), none, none, none, none, none] := hl.mask [true, true, true, true, true, false, false, false, false, false]
  exact w_V_write_140 fz x1 x2 x3 i4 n4 (B_N_epochOfNextWrite fz i4 (B_V_hasBlock fz x6 x2 h) h).1 (B_N_epochOfNextWrite fz i4 (B_V_hasBlock fz x6 x2 h) h).2 ρ hρ hp X K hr hk hl hw
set_option maxHeartbeats 4000000 in
set_option maxRecDepth 100000 in
theorem w_V_write (fz : Nat) (x1 : Int32) (x2 : Int32) (x3 : Int32) (h : HH) (ρ : Int32 × HH) (hρ : B_V_write fz x1 x2 x3 h = ρ) (hp : P_V_write fz x1 x2 x3 h) (X : CallFix p m c b_V_write 10 s args TB R_V) (K : KK D cI cZ s) (hr : meth.sig.returnType = (some .int)) (hk : meth.locks = false) {ls : Array Slot} {H : Heap} {locs : List Loc} (hl : Lc ls 10 [some (.ref (ad 0)), some (.int x1), some (.int x2), some (.int x3), none, none, none, none, none, none]) (hw : Hw D cI cZ base ad s shape h H locs) : W p l e (rmD 2 45) s m args below meth c H locs 0 0 (MQ below (Qw D cI cZ base ad (pIH ρ)) args s 0 0 (fun q => base ≤ q)) (F0 m 0 ls []) := by
  unfold B_V_write at hρ
  unfold P_V_write at hp
  refine lv_iload_n X.1 X.2.1 d_V_write_0 rfl (hl.at 1 rfl) ?_
  refine r_callS (rest := []) X K hw hl.1 mf_V_36 (c_V_isNode l D cI cZ base ad fz x1 h hp.1) (by decide) ⟨Nat.le_refl _, Nat.le_refl _⟩ rfl rfl (Nat.le_of_ble_eq_true rfl) d_V_write_1 (fun v h' H locs q hw => ?_)
  obtain ⟨rfl, rfl⟩ := q
  have hp := hp.2
  refine lv_if_eq (tgt := 14) X.1 X.2.1 d_V_write_4 (by decide) (fun g => ?_) (fun g => ?_)
  · rw [if_pos g] at hρ
    have hp := hp.1 g
    refine lv_iconst (v := (-1 : Int32)) X.1 X.2.1 d_V_write_14 (by decide) ?_
    exact r_iret X hr hk hw ⟨congrArg (fun z => some (Value.int z.1)) hρ, (congrArg Prod.snd hρ).symm⟩ d_V_write_15
  · rw [if_neg g] at hρ
    have hp := hp.2 g
    refine lv_iload_n X.1 X.2.1 d_V_write_7 rfl (hl.at 2 rfl) ?_
    refine r_callS (rest := []) X K hw hl.1 mf_V_40 (c_V_isBlock l D cI cZ base ad fz x2 h hp.1) (by decide) ⟨Nat.le_refl _, Nat.le_refl _⟩ rfl rfl (Nat.le_of_ble_eq_true rfl) d_V_write_8 (fun v h' H locs q hw => ?_)
    obtain ⟨rfl, rfl⟩ := q
    have hp := hp.2
    refine lv_if_ne (tgt := 16) X.1 X.2.1 d_V_write_11 (by decide) (fun g => ?_) (fun g => ?_)
    · rw [if_neg g] at hρ
      have hp := hp.2 g
      refine lv_aload_n X.1 X.2.1 d_V_write_16 rfl (hl.at 0 rfl) ?_
      refine lv_iload_n X.1 X.2.1 d_V_write_17 rfl (hl.at 1 rfl) ?_
      refine r_callV (rest := []) X K hw hl.1 mf_V_43 rfl rfl rfl (c_V_nodeOf l D cI cZ base ad fz x1 h hp.1) (by decide) ⟨Nat.le_refl _, Nat.le_refl _⟩ rfl rfl (Nat.le_of_ble_eq_true rfl) d_V_write_18 (fun v h' H locs q hw => ?_)
      obtain ⟨rfl, rfl⟩ := q
      have hp := hp.2
      refine r_astore X hl d_V_write_21 (by decide) (fun ls hl => ?_)
      have hl : Lc ls 10 [some (.ref (ad 0)), some (.int x1), some (.int x2), some (.int x3), some (.ref (ad (B_V_nodeOf fz x1 h))), none, none, none, none, none] := hl
      refine lv_aload X.1 X.2.1 d_V_write_23 (hl.at 4 rfl) ?_
      refine r_geti X K hw fg_V_47 (shp_N (isN_V_nodeOf fz x1 h)) rfl d_V_write_25 ?_
      refine lv_if_ne (tgt := 34) X.1 X.2.1 d_V_write_28 (by decide) (fun g => ?_) (fun g => ?_)
      · rw [if_neg g] at hρ
        have hp := hp.2 g
        refine lv_aload X.1 X.2.1 d_V_write_34 (hl.at 4 rfl) ?_
        refine r_geti X K hw fg_V_50 (shp_N (isN_V_nodeOf fz x1 h)) rfl d_V_write_36 ?_
        refine lv_if_ne (tgt := 45) X.1 X.2.1 d_V_write_39 (by decide) (fun g => ?_) (fun g => ?_)
        · rw [if_neg g] at hρ
          have hp := hp.2 g
          refine lv_aload_n X.1 X.2.1 d_V_write_45 rfl (hl.at 0 rfl) ?_
          refine r_getr (j := 21) X K hw fg_V_24 rfl rfl d_V_write_46 ?_
          refine r_callV (rest := []) X K hw hl.1 mf_V_53 rfl rfl rfl (c_T_isFull l D cI cZ base ad fz  h hp.1) (by decide) ⟨Nat.le_refl _, Nat.le_refl _⟩ rfl rfl (Nat.le_of_ble_eq_true rfl) d_V_write_49 (fun v h' H locs q hw => ?_)
          obtain ⟨rfl, rfl⟩ := q
          have hp := hp.2
          refine lv_if_ne (tgt := 68) X.1 X.2.1 d_V_write_52 (by decide) (fun g => ?_) (fun g => ?_)
          · rw [if_neg g] at hρ
            have hp := hp.2 g
            refine lv_bipush (v := (-4 : Int32)) X.1 X.2.1 d_V_write_68 (by decide) ?_
            exact r_iret X hr hk hw ⟨congrArg (fun z => some (Value.int z.1)) hρ, (congrArg Prod.snd hρ).symm⟩ d_V_write_70
          · rw [if_pos g] at hρ
            have hp := hp.1 g
            refine lv_aload_n X.1 X.2.1 d_V_write_55 rfl (hl.at 0 rfl) ?_
            refine r_getr (j := 21) X K hw fg_V_24 rfl rfl d_V_write_56 ?_
            refine lv_iload_n X.1 X.2.1 d_V_write_59 rfl (hl.at 1 rfl) ?_
            refine r_callV (rest := []) X K hw hl.1 mf_V_57 rfl rfl rfl (c_T_countPending l D cI cZ base ad fz x1 h hp.1) (by decide) ⟨Nat.le_refl _, Nat.le_refl _⟩ rfl rfl (Nat.le_of_ble_eq_true rfl) d_V_write_60 (fun v h' H locs q hw => ?_)
            obtain ⟨rfl, rfl⟩ := q
            have hp := hp.2
            refine lv_bipush (v := (8 : Int32)) X.1 X.2.1 d_V_write_63 (by decide) ?_
            refine lv_icmp_lt (tgt := 71) X.1 X.2.1 d_V_write_65 (by decide) (fun g => ?_) (fun g => ?_)
            · rw [if_pos g] at hρ
              have hp := hp.1 g
              refine lv_iload_n X.1 X.2.1 d_V_write_71 rfl (hl.at 2 rfl) ?_
              refine lv_iconst (v := (4 : Int32)) X.1 X.2.1 d_V_write_72 (by decide) ?_
              refine lv_idiv X.1 X.2.1 d_V_write_73 (by decide) ?_
              refine r_istore X hl d_V_write_74 (by decide) (fun ls hl => ?_)
              have hl : Lc ls 10 [some (.ref (ad 0)), some (.int x1), some (.int x2), some (.int x3), some (.ref (ad (B_V_nodeOf fz x1 h))), some (.int (x2 / (4 : Int32))), none, none, none, none] := hl
              refine lv_aload_n X.1 X.2.1 d_V_write_76 rfl (hl.at 0 rfl) ?_
              refine r_getr (j := 21) X K hw fg_V_24 rfl rfl d_V_write_77 ?_
              refine lv_iload_n X.1 X.2.1 d_V_write_80 rfl (hl.at 1 rfl) ?_
              refine r_callV (rest := []) X K hw hl.1 mf_V_61 rfl rfl rfl (c_T_pendingBlocks l D cI cZ base ad fz x1 h hp.1) (by decide) ⟨Nat.le_refl _, Nat.le_refl _⟩ rfl rfl (Nat.le_of_ble_eq_true rfl) d_V_write_81 (fun v h' H locs q hw => ?_)
              obtain ⟨rfl, rfl⟩ := q
              have hp := hp.2
              refine r_istore X hl d_V_write_84 (by decide) (fun ls hl => ?_)
              have hl : Lc ls 10 [some (.ref (ad 0)), some (.int x1), some (.int x2), some (.int x3), some (.ref (ad (B_V_nodeOf fz x1 h))), some (.int (x2 / (4 : Int32))), some (.int (B_T_pendingBlocks fz x1 h)), none, none, none] := hl
              refine lv_aload X.1 X.2.1 d_V_write_86 (hl.at 4 rfl) ?_
              refine r_getr (j := ((B_V_nodeOf fz x1 h) + 2)) X K hw fg_V_64 (shp_N (isN_V_nodeOf fz x1 h)) rfl d_V_write_88 ?_
              refine lv_iload X.1 X.2.1 d_V_write_91 (hl.at 5 rfl) ?_
              refine lv_iload X.1 X.2.1 d_V_write_93 (hl.at 6 rfl) ?_
              refine r_callV (rest := []) X K hw hl.1 mf_V_68 (shp_E (isN_V_nodeOf fz x1 h)) rfl rfl (c_E_placeFor l D cI cZ base ad fz (B_V_nodeOf fz x1 h) (isN_V_nodeOf fz x1 h) (x2 / (4 : Int32)) (B_T_pendingBlocks fz x1 h) h hp.1) (by decide) ⟨Nat.le_refl _, Nat.le_refl _⟩ rfl rfl (Nat.le_of_ble_eq_true rfl) d_V_write_95 (fun v h' H locs q hw => ?_)
              obtain ⟨rfl, rfl⟩ := q
              have hp := hp.2
              refine r_istore X hl d_V_write_98 (by decide) (fun ls hl => ?_)
              have hl : Lc ls 10 [some (.ref (ad 0)), some (.int x1), some (.int x2), some (.int x3), some (.ref (ad (B_V_nodeOf fz x1 h))), some (.int (x2 / (4 : Int32))), some (.int (B_T_pendingBlocks fz x1 h)), some (.int (B_E_placeFor fz (B_V_nodeOf fz x1 h) (x2 / (4 : Int32)) (B_T_pendingBlocks fz x1 h) h)), none, none] := hl
              refine lv_iload X.1 X.2.1 d_V_write_100 (hl.at 7 rfl) ?_
              refine lv_iconst (v := (-1 : Int32)) X.1 X.2.1 d_V_write_102 (by decide) ?_
              refine lv_icmp_ne (tgt := 109) X.1 X.2.1 d_V_write_103 (by decide) (fun g => ?_) (fun g => ?_)
              · rw [if_neg g] at hρ
                have hp := hp.2 g
                refine lv_aload X.1 X.2.1 d_V_write_109 (hl.at 4 rfl) ?_
                refine r_getr (j := ((B_V_nodeOf fz x1 h) + 2)) X K hw fg_V_64 (shp_N (isN_V_nodeOf fz x1 h)) rfl d_V_write_111 ?_
                refine lv_iload X.1 X.2.1 d_V_write_114 (hl.at 5 rfl) ?_
                refine lv_iload X.1 X.2.1 d_V_write_116 (hl.at 7 rfl) ?_
                refine r_callV (rest := []) X K hw hl.1 mf_V_74 (shp_E (isN_V_nodeOf fz x1 h)) rfl rfl (c_E_putInFront l D cI cZ base ad fz (B_V_nodeOf fz x1 h) (isN_V_nodeOf fz x1 h) (x2 / (4 : Int32)) (B_E_placeFor fz (B_V_nodeOf fz x1 h) (x2 / (4 : Int32)) (B_T_pendingBlocks fz x1 h) h) h hp.1) (by decide) ⟨Nat.le_refl _, Nat.le_refl _⟩ rfl rfl (Nat.le_of_ble_eq_true rfl) d_V_write_118 (fun v h' H locs q hw => ?_)
                obtain ⟨rfl, rfl⟩ := q
                have hp := hp.2
                refine lv_aload X.1 X.2.1 d_V_write_121 (hl.at 4 rfl) ?_
                refine r_getr (j := ((B_V_nodeOf fz x1 h) + 1)) X K hw fg_V_78 (shp_N (isN_V_nodeOf fz x1 h)) rfl d_V_write_123 ?_
                refine lv_iload_n X.1 X.2.1 d_V_write_126 rfl (hl.at 2 rfl) ?_
                refine lv_iload_n X.1 X.2.1 d_V_write_127 rfl (hl.at 3 rfl) ?_
                refine r_ast X K hw (sha_1 (isN_V_nodeOf fz x1 h)) hp.1 d_V_write_128 (fun H locs hw => ?_)
                have hp := hp.2
                have hl : Lc ls 10 [some (.ref (ad 0)), some (.int x1), some (.int x2), some (.int x3), some (.ref (ad (B_V_nodeOf fz x1 h))), none, some (.int (B_T_pendingBlocks fz x1 h)), none, none, none] := hl.mask [true, true, true, true, true, false, true, false, false, false]
                exact w_V_write_129 fz x1 x2 x3 (B_V_nodeOf fz x1 h) (isN_V_nodeOf fz x1 h) (B_T_pendingBlocks fz x1 h) (u2 (B_E_putInFront fz (B_V_nodeOf fz x1 h) (x2 / (4 : Int32)) (B_E_placeFor fz (B_V_nodeOf fz x1 h) (x2 / (4 : Int32)) (B_T_pendingBlocks fz x1 h) h) h) ((B_V_nodeOf fz x1 h) + 1) (ix x2) x3) ρ hρ hp X K hr hk hl hw
              · rw [if_pos g] at hρ
                have hp := hp.1 g
                refine lv_bipush (v := (-5 : Int32)) X.1 X.2.1 d_V_write_106 (by decide) ?_
                exact r_iret X hr hk hw ⟨congrArg (fun z => some (Value.int z.1)) hρ, (congrArg Prod.snd hρ).symm⟩ d_V_write_108
            · rw [if_neg g] at hρ
              have hp := hp.2 g
              refine lv_bipush (v := (-4 : Int32)) X.1 X.2.1 d_V_write_68 (by decide) ?_
              exact r_iret X hr hk hw ⟨congrArg (fun z => some (Value.int z.1)) hρ, (congrArg Prod.snd hρ).symm⟩ d_V_write_70
        · rw [if_pos g] at hρ
          have hp := hp.1 g
          refine lv_bipush (v := (-3 : Int32)) X.1 X.2.1 d_V_write_42 (by decide) ?_
          exact r_iret X hr hk hw ⟨congrArg (fun z => some (Value.int z.1)) hρ, (congrArg Prod.snd hρ).symm⟩ d_V_write_44
      · rw [if_pos g] at hρ
        have hp := hp.1 g
        refine lv_bipush (v := (-2 : Int32)) X.1 X.2.1 d_V_write_31 (by decide) ?_
        exact r_iret X hr hk hw ⟨congrArg (fun z => some (Value.int z.1)) hρ, (congrArg Prod.snd hρ).symm⟩ d_V_write_33
    · rw [if_pos g] at hρ
      have hp := hp.1 g
      refine lv_iconst (v := (-1 : Int32)) X.1 X.2.1 d_V_write_14 (by decide) ?_
      exact r_iret X hr hk hw ⟨congrArg (fun z => some (Value.int z.1)) hρ, (congrArg Prod.snd hρ).symm⟩ d_V_write_15
set_option maxRecDepth 100000 in
theorem c_V_write (l : Launch) (D : va_G) (cI cZ : ClassId) (base : Nat) (ad : Nat → Nat) (fz : Nat) (x1 : Int32) (x2 : Int32) (x3 : Int32) (h : HH) (hp : P_V_write fz x1 x2 x3 h) : Ct l D cI cZ base ad y_V_write b_V_write 10 (some .int) 2 45 [.ref (ad 0), .int x1, .int x2, .int x3] h (pIH (B_V_write fz x1 x2 x3 h)) := by
  refine Ct.of (by decide) (Nat.le_of_ble_eq_true rfl) (cat_ok rfl) ?_
  intro p e s m args below meth c ls X K hr hk hl hw
  exact w_V_write fz x1 x2 x3 h _ rfl hp X K hr hk hl hw
set_option maxHeartbeats 4000000 in
set_option maxRecDepth 100000 in
theorem w_V_barrier (fz : Nat) (x1 : Int32) (h : HH) (ρ : Int32 × HH) (hρ : B_V_barrier fz x1 h = ρ) (hp : P_V_barrier fz x1 h) (X : CallFix p m c b_V_barrier 3 s args TB R_V) (K : KK D cI cZ s) (hr : meth.sig.returnType = (some .boolean)) (hk : meth.locks = false) {ls : Array Slot} {H : Heap} {locs : List Loc} (hl : Lc ls 3 [some (.ref (ad 0)), some (.int x1), none]) (hw : Hw D cI cZ base ad s shape h H locs) : W p l e (rmD 1 21) s m args below meth c H locs 0 0 (MQ below (Qw D cI cZ base ad (pIH ρ)) args s 0 0 (fun q => base ≤ q)) (F0 m 0 ls []) := by
  unfold B_V_barrier at hρ
  unfold P_V_barrier at hp
  refine lv_iload_n X.1 X.2.1 d_V_barrier_0 rfl (hl.at 1 rfl) ?_
  refine r_callS (rest := []) X K hw hl.1 mf_V_36 (c_V_isNode l D cI cZ base ad fz x1 h hp.1) (by decide) ⟨Nat.le_refl _, Nat.le_refl _⟩ rfl rfl (Nat.le_of_ble_eq_true rfl) d_V_barrier_1 (fun v h' H locs q hw => ?_)
  obtain ⟨rfl, rfl⟩ := q
  have hp := hp.2
  refine lv_if_ne (tgt := 9) X.1 X.2.1 d_V_barrier_4 (by decide) (fun g => ?_) (fun g => ?_)
  · rw [if_neg g] at hρ
    have hp := hp.2 g
    refine lv_aload_n X.1 X.2.1 d_V_barrier_9 rfl (hl.at 0 rfl) ?_
    refine lv_iload_n X.1 X.2.1 d_V_barrier_10 rfl (hl.at 1 rfl) ?_
    refine r_callV (rest := []) X K hw hl.1 mf_V_43 rfl rfl rfl (c_V_nodeOf l D cI cZ base ad fz x1 h hp.1) (by decide) ⟨Nat.le_refl _, Nat.le_refl _⟩ rfl rfl (Nat.le_of_ble_eq_true rfl) d_V_barrier_11 (fun v h' H locs q hw => ?_)
    obtain ⟨rfl, rfl⟩ := q
    have hp := hp.2
    refine r_astore_n X hl d_V_barrier_14 rfl (by decide) (fun ls hl => ?_)
    have hl : Lc ls 3 [some (.ref (ad 0)), some (.int x1), some (.ref (ad (B_V_nodeOf fz x1 h)))] := hl
    refine lv_aload_n X.1 X.2.1 d_V_barrier_15 rfl (hl.at 2 rfl) ?_
    refine r_geti X K hw fg_V_47 (shp_N (isN_V_nodeOf fz x1 h)) rfl d_V_barrier_16 ?_
    refine lv_if_eq (tgt := 29) X.1 X.2.1 d_V_barrier_19 (by decide) (fun g => ?_) (fun g => ?_)
    · rw [if_pos g] at hρ
      have hp := hp.1 g
      refine lv_iconst (v := (0 : Int32)) X.1 X.2.1 d_V_barrier_29 (by decide) ?_
      exact r_zret X hr hk hw (by decide) ⟨congrArg (fun z => some (Value.int z.1)) hρ, (congrArg Prod.snd hρ).symm⟩ d_V_barrier_30
    · rw [if_neg g] at hρ
      have hp := hp.2 g
      refine lv_aload_n X.1 X.2.1 d_V_barrier_22 rfl (hl.at 2 rfl) ?_
      refine r_geti X K hw fg_V_50 (shp_N (isN_V_nodeOf fz x1 h)) rfl d_V_barrier_23 ?_
      refine lv_if_ne (tgt := 31) X.1 X.2.1 d_V_barrier_26 (by decide) (fun g => ?_) (fun g => ?_)
      · rw [if_neg g] at hρ
        have hp := hp.2 g
        refine lv_aload_n X.1 X.2.1 d_V_barrier_31 rfl (hl.at 2 rfl) ?_
        refine lv_iconst (v := (1 : Int32)) X.1 X.2.1 d_V_barrier_32 (by decide) ?_
        refine r_put X K hw fp_V_107 (shp_N (isN_V_nodeOf fz x1 h)) rfl (by decide) (by decide) d_V_barrier_33 (fun H locs hw => ?_)
        refine lv_iconst (v := (1 : Int32)) X.1 X.2.1 d_V_barrier_36 (by decide) ?_
        exact r_zret X hr hk hw (by decide) ⟨congrArg (fun z => some (Value.int z.1)) hρ, (congrArg Prod.snd hρ).symm⟩ d_V_barrier_37
      · rw [if_pos g] at hρ
        have hp := hp.1 g
        refine lv_iconst (v := (0 : Int32)) X.1 X.2.1 d_V_barrier_29 (by decide) ?_
        exact r_zret X hr hk hw (by decide) ⟨congrArg (fun z => some (Value.int z.1)) hρ, (congrArg Prod.snd hρ).symm⟩ d_V_barrier_30
  · rw [if_pos g] at hρ
    have hp := hp.1 g
    refine lv_iconst (v := (0 : Int32)) X.1 X.2.1 d_V_barrier_7 (by decide) ?_
    exact r_zret X hr hk hw (by decide) ⟨congrArg (fun z => some (Value.int z.1)) hρ, (congrArg Prod.snd hρ).symm⟩ d_V_barrier_8
set_option maxRecDepth 100000 in
theorem c_V_barrier (l : Launch) (D : va_G) (cI cZ : ClassId) (base : Nat) (ad : Nat → Nat) (fz : Nat) (x1 : Int32) (h : HH) (hp : P_V_barrier fz x1 h) : Ct l D cI cZ base ad y_V_barrier b_V_barrier 3 (some .boolean) 1 21 [.ref (ad 0), .int x1] h (pIH (B_V_barrier fz x1 h)) := by
  refine Ct.of (by decide) (Nat.le_of_ble_eq_true rfl) (cat_ok rfl) ?_
  intro p e s m args below meth c ls X K hr hk hl hw
  exact w_V_barrier fz x1 h _ rfl hp X K hr hk hl hw
set_option maxHeartbeats 4000000 in
set_option maxRecDepth 100000 in
theorem w_O_kindOfFirst (fz : Nat) (i0 : Nat) (n0 : isN i0) (h : HH) (ρ : Int32) (hρ : B_O_kindOfFirst fz i0 h = ρ) (hp : P_O_kindOfFirst fz i0 h) (X : CallFix p m c b_O_kindOfFirst 1 s args TB R_O) (K : KK D cI cZ s) (hr : meth.sig.returnType = (some .int)) (hk : meth.locks = false) {ls : Array Slot} {H : Heap} {locs : List Loc} (hl : Lc ls 1 [some (.ref (ad (i0 + 4)))]) (hw : Hw D cI cZ base ad s shape h H locs) : W p l e (rmD 0 0) s m args below meth c H locs 0 0 (MQ below (Qw D cI cZ base ad (pI h ρ)) args s 0 0 (fun q => base ≤ q)) (F0 m 0 ls []) := by
  unfold B_O_kindOfFirst at hρ
  unfold P_O_kindOfFirst at hp
  refine lv_aload_n X.1 X.2.1 d_O_kindOfFirst_0 rfl (hl.at 0 rfl) ?_
  refine r_getr (j := (i0 + 5)) X K hw fg_O_9 (shp_O n0) rfl d_O_kindOfFirst_1 ?_
  refine lv_aload_n X.1 X.2.1 d_O_kindOfFirst_4 rfl (hl.at 0 rfl) ?_
  refine r_geti X K hw fg_O_25 (shp_O n0) rfl d_O_kindOfFirst_5 ?_
  refine r_ald X K hw (sha_5 n0) hp.1 d_O_kindOfFirst_8 ?_
  have hp := hp.2
  exact r_iret X hr hk hw ⟨congrArg (fun z => some (Value.int z)) hρ, rfl⟩ d_O_kindOfFirst_9
set_option maxRecDepth 100000 in
theorem c_O_kindOfFirst (l : Launch) (D : va_G) (cI cZ : ClassId) (base : Nat) (ad : Nat → Nat) (fz : Nat) (i0 : Nat) (n0 : isN i0) (h : HH) (hp : P_O_kindOfFirst fz i0 h) : Ct l D cI cZ base ad y_O_kindOfFirst b_O_kindOfFirst 1 (some .int) 0 0 [.ref (ad (i0 + 4))] h (pI h (B_O_kindOfFirst fz i0 h)) := by
  refine Ct.of (by decide) (Nat.le_of_ble_eq_true rfl) (cat_ok rfl) ?_
  intro p e s m args below meth c ls X K hr hk hl hw
  exact w_O_kindOfFirst fz i0 n0 h _ rfl hp X K hr hk hl hw
set_option maxHeartbeats 4000000 in
set_option maxRecDepth 100000 in
theorem w_O_subjectOfFirst (fz : Nat) (i0 : Nat) (n0 : isN i0) (h : HH) (ρ : Int32) (hρ : B_O_subjectOfFirst fz i0 h = ρ) (hp : P_O_subjectOfFirst fz i0 h) (X : CallFix p m c b_O_subjectOfFirst 1 s args TB R_O) (K : KK D cI cZ s) (hr : meth.sig.returnType = (some .int)) (hk : meth.locks = false) {ls : Array Slot} {H : Heap} {locs : List Loc} (hl : Lc ls 1 [some (.ref (ad (i0 + 4)))]) (hw : Hw D cI cZ base ad s shape h H locs) : W p l e (rmD 0 0) s m args below meth c H locs 0 0 (MQ below (Qw D cI cZ base ad (pI h ρ)) args s 0 0 (fun q => base ≤ q)) (F0 m 0 ls []) := by
  unfold B_O_subjectOfFirst at hρ
  unfold P_O_subjectOfFirst at hp
  refine lv_aload_n X.1 X.2.1 d_O_subjectOfFirst_0 rfl (hl.at 0 rfl) ?_
  refine r_getr (j := (i0 + 6)) X K hw fg_O_15 (shp_O n0) rfl d_O_subjectOfFirst_1 ?_
  refine lv_aload_n X.1 X.2.1 d_O_subjectOfFirst_4 rfl (hl.at 0 rfl) ?_
  refine r_geti X K hw fg_O_25 (shp_O n0) rfl d_O_subjectOfFirst_5 ?_
  refine r_ald X K hw (sha_6 n0) hp.1 d_O_subjectOfFirst_8 ?_
  have hp := hp.2
  exact r_iret X hr hk hw ⟨congrArg (fun z => some (Value.int z)) hρ, rfl⟩ d_O_subjectOfFirst_9
set_option maxRecDepth 100000 in
theorem c_O_subjectOfFirst (l : Launch) (D : va_G) (cI cZ : ClassId) (base : Nat) (ad : Nat → Nat) (fz : Nat) (i0 : Nat) (n0 : isN i0) (h : HH) (hp : P_O_subjectOfFirst fz i0 h) : Ct l D cI cZ base ad y_O_subjectOfFirst b_O_subjectOfFirst 1 (some .int) 0 0 [.ref (ad (i0 + 4))] h (pI h (B_O_subjectOfFirst fz i0 h)) := by
  refine Ct.of (by decide) (Nat.le_of_ble_eq_true rfl) (cat_ok rfl) ?_
  intro p e s m args below meth c ls X K hr hk hl hw
  exact w_O_subjectOfFirst fz i0 n0 h _ rfl hp X K hr hk hl hw
set_option maxHeartbeats 4000000 in
set_option maxRecDepth 100000 in
theorem w_O_valueOfFirst (fz : Nat) (i0 : Nat) (n0 : isN i0) (h : HH) (ρ : Int32) (hρ : B_O_valueOfFirst fz i0 h = ρ) (hp : P_O_valueOfFirst fz i0 h) (X : CallFix p m c b_O_valueOfFirst 1 s args TB R_O) (K : KK D cI cZ s) (hr : meth.sig.returnType = (some .int)) (hk : meth.locks = false) {ls : Array Slot} {H : Heap} {locs : List Loc} (hl : Lc ls 1 [some (.ref (ad (i0 + 4)))]) (hw : Hw D cI cZ base ad s shape h H locs) : W p l e (rmD 0 0) s m args below meth c H locs 0 0 (MQ below (Qw D cI cZ base ad (pI h ρ)) args s 0 0 (fun q => base ≤ q)) (F0 m 0 ls []) := by
  unfold B_O_valueOfFirst at hρ
  unfold P_O_valueOfFirst at hp
  refine lv_aload_n X.1 X.2.1 d_O_valueOfFirst_0 rfl (hl.at 0 rfl) ?_
  refine r_getr (j := (i0 + 7)) X K hw fg_O_18 (shp_O n0) rfl d_O_valueOfFirst_1 ?_
  refine lv_aload_n X.1 X.2.1 d_O_valueOfFirst_4 rfl (hl.at 0 rfl) ?_
  refine r_geti X K hw fg_O_25 (shp_O n0) rfl d_O_valueOfFirst_5 ?_
  refine r_ald X K hw (sha_7 n0) hp.1 d_O_valueOfFirst_8 ?_
  have hp := hp.2
  exact r_iret X hr hk hw ⟨congrArg (fun z => some (Value.int z)) hρ, rfl⟩ d_O_valueOfFirst_9
set_option maxRecDepth 100000 in
theorem c_O_valueOfFirst (l : Launch) (D : va_G) (cI cZ : ClassId) (base : Nat) (ad : Nat → Nat) (fz : Nat) (i0 : Nat) (n0 : isN i0) (h : HH) (hp : P_O_valueOfFirst fz i0 h) : Ct l D cI cZ base ad y_O_valueOfFirst b_O_valueOfFirst 1 (some .int) 0 0 [.ref (ad (i0 + 4))] h (pI h (B_O_valueOfFirst fz i0 h)) := by
  refine Ct.of (by decide) (Nat.le_of_ble_eq_true rfl) (cat_ok rfl) ?_
  intro p e s m args below meth c ls X K hr hk hl hw
  exact w_O_valueOfFirst fz i0 n0 h _ rfl hp X K hr hk hl hw
set_option maxHeartbeats 4000000 in
set_option maxRecDepth 100000 in
theorem w_O_dropFirst_20 (fz : Nat) (i0 : Nat) (n0 : isN i0) (h : HH) (ρ : HH) (hρ : B_O_dropFirst_20 fz i0 h = ρ) (hp : P_O_dropFirst_20 fz i0 h) (X : CallFix p m c b_O_dropFirst 1 s args TB R_O) (K : KK D cI cZ s) (hr : meth.sig.returnType = none) (hk : meth.locks = false) {ls : Array Slot} {H : Heap} {locs : List Loc} (hl : Lc ls 1 [some (.ref (ad (i0 + 4)))]) (hw : Hw D cI cZ base ad s shape h H locs) : W p l e (rmD 0 0) s m args below meth c H locs 0 0 (MQ below (Qw D cI cZ base ad (pH ρ)) args s 0 0 (fun q => base ≤ q)) (F0 m 20 ls []) := by
  unfold B_O_dropFirst_20 at hρ
  unfold P_O_dropFirst_20 at hp
  refine lv_aload_n X.1 X.2.1 d_O_dropFirst_20 rfl (hl.at 0 rfl) ?_
  refine lv_dup X.1 X.2.1 d_O_dropFirst_21 rfl ?_
  refine r_geti X K hw fg_O_21 (shp_O n0) rfl d_O_dropFirst_22 ?_
  refine lv_iconst (v := (1 : Int32)) X.1 X.2.1 d_O_dropFirst_25 (by decide) ?_
  refine lv_isub X.1 X.2.1 d_O_dropFirst_26 ?_
  refine r_put X K hw fp_O_21 (shp_O n0) rfl rfl rfl d_O_dropFirst_27 (fun H locs hw => ?_)
  exact r_vret X hr hk hw ⟨rfl, hρ.symm⟩ d_O_dropFirst_30
set_option maxHeartbeats 4000000 in
set_option maxRecDepth 100000 in
theorem w_O_dropFirst (fz : Nat) (i0 : Nat) (n0 : isN i0) (h : HH) (ρ : HH) (hρ : B_O_dropFirst fz i0 h = ρ) (hp : P_O_dropFirst fz i0 h) (X : CallFix p m c b_O_dropFirst 1 s args TB R_O) (K : KK D cI cZ s) (hr : meth.sig.returnType = none) (hk : meth.locks = false) {ls : Array Slot} {H : Heap} {locs : List Loc} (hl : Lc ls 1 [some (.ref (ad (i0 + 4)))]) (hw : Hw D cI cZ base ad s shape h H locs) : W p l e (rmD 0 0) s m args below meth c H locs 0 0 (MQ below (Qw D cI cZ base ad (pH ρ)) args s 0 0 (fun q => base ≤ q)) (F0 m 0 ls []) := by
  unfold B_O_dropFirst at hρ
  unfold P_O_dropFirst at hp
  refine lv_aload_n X.1 X.2.1 d_O_dropFirst_0 rfl (hl.at 0 rfl) ?_
  refine r_geti X K hw fg_O_21 (shp_O n0) rfl d_O_dropFirst_1 ?_
  refine lv_if_le (tgt := 30) X.1 X.2.1 d_O_dropFirst_4 (by decide) (fun g => ?_) (fun g => ?_)
  · rw [if_pos g] at hρ
    have hp := hp.1 g
    exact r_vret X hr hk hw ⟨rfl, hρ.symm⟩ d_O_dropFirst_30
  · rw [if_neg g] at hρ
    have hp := hp.2 g
    refine lv_aload_n X.1 X.2.1 d_O_dropFirst_7 rfl (hl.at 0 rfl) ?_
    refine lv_aload_n X.1 X.2.1 d_O_dropFirst_8 rfl (hl.at 0 rfl) ?_
    refine r_geti X K hw fg_O_25 (shp_O n0) rfl d_O_dropFirst_9 ?_
    refine lv_iconst (v := (1 : Int32)) X.1 X.2.1 d_O_dropFirst_12 (by decide) ?_
    refine lv_iadd X.1 X.2.1 d_O_dropFirst_13 ?_
    refine lv_bipush (v := (25 : Int32)) X.1 X.2.1 d_O_dropFirst_14 (by decide) ?_
    refine lv_irem X.1 X.2.1 d_O_dropFirst_16 (by decide) ?_
    refine r_put X K hw fp_O_25 (shp_O n0) rfl rfl rfl d_O_dropFirst_17 (fun H locs hw => ?_)
    exact w_O_dropFirst_20 fz i0 n0 (u2 h (i0 + 4) 3 (((h (i0 + 4) 3) + (1 : Int32)) - ((h (i0 + 4) 3) + (1 : Int32)) / (25 : Int32) * (25 : Int32))) ρ hρ hp X K hr hk hl hw
set_option maxRecDepth 100000 in
theorem c_O_dropFirst (l : Launch) (D : va_G) (cI cZ : ClassId) (base : Nat) (ad : Nat → Nat) (fz : Nat) (i0 : Nat) (n0 : isN i0) (h : HH) (hp : P_O_dropFirst fz i0 h) : Ct l D cI cZ base ad y_O_dropFirst b_O_dropFirst 1 none 0 0 [.ref (ad (i0 + 4))] h (pH (B_O_dropFirst fz i0 h)) := by
  refine Ct.of (by decide) (Nat.le_of_ble_eq_true rfl) (cat_ok rfl) ?_
  intro p e s m args below meth c ls X K hr hk hl hw
  exact w_O_dropFirst fz i0 n0 h _ rfl hp X K hr hk hl hw
set_option maxHeartbeats 4000000 in
set_option maxRecDepth 100000 in
theorem w_V_peerOf (fz : Nat) (x1 : Int32) (h : HH) (ρ : Nat) (hρ : B_V_peerOf fz x1 h = ρ) (hp : P_V_peerOf fz x1 h) (X : CallFix p m c b_V_peerOf 2 s args TB R_V) (K : KK D cI cZ s) (hr : meth.sig.returnType = (some (.object "TwinVolume$Node"))) (hk : meth.locks = false) {ls : Array Slot} {H : Heap} {locs : List Loc} (hl : Lc ls 2 [some (.ref (ad 0)), some (.int x1)]) (hw : Hw D cI cZ base ad s shape h H locs) : W p l e (rmD 0 0) s m args below meth c H locs 0 0 (MQ below (Qw D cI cZ base ad (pR ad h ρ)) args s 0 0 (fun q => base ≤ q)) (F0 m 0 ls []) := by
  unfold B_V_peerOf at hρ
  unfold P_V_peerOf at hp
  refine lv_iload_n X.1 X.2.1 d_V_peerOf_0 rfl (hl.at 1 rfl) ?_
  refine lv_if_ne (tgt := 11) X.1 X.2.1 d_V_peerOf_1 (by decide) (fun g => ?_) (fun g => ?_)
  · rw [if_neg g] at hρ
    have hp := hp.2 g
    refine lv_aload_n X.1 X.2.1 d_V_peerOf_11 rfl (hl.at 0 rfl) ?_
    refine r_getr (j := 1) X K hw fg_V_12 rfl rfl d_V_peerOf_12 ?_
    exact r_aret X hr (Or.inl ⟨_, rfl⟩) hk hw ⟨congrArg (fun z => some (Value.ref (ad z))) hρ, rfl⟩ d_V_peerOf_15
  · rw [if_pos g] at hρ
    have hp := hp.1 g
    refine lv_aload_n X.1 X.2.1 d_V_peerOf_4 rfl (hl.at 0 rfl) ?_
    refine r_getr (j := 11) X K hw fg_V_18 rfl rfl d_V_peerOf_5 ?_
    refine lv_goto (tgt := 15) X.1 X.2.1 d_V_peerOf_8 (by decide) ?_
    exact r_aret X hr (Or.inl ⟨_, rfl⟩) hk hw ⟨congrArg (fun z => some (Value.ref (ad z))) hρ, rfl⟩ d_V_peerOf_15
set_option maxRecDepth 100000 in
theorem c_V_peerOf (l : Launch) (D : va_G) (cI cZ : ClassId) (base : Nat) (ad : Nat → Nat) (fz : Nat) (x1 : Int32) (h : HH) (hp : P_V_peerOf fz x1 h) : Ct l D cI cZ base ad y_V_peerOf b_V_peerOf 2 (some (.object "TwinVolume$Node")) 0 0 [.ref (ad 0), .int x1] h (pR ad h (B_V_peerOf fz x1 h)) := by
  refine Ct.of (by decide) (Nat.le_of_ble_eq_true rfl) (cat_ok rfl) ?_
  intro p e s m args below meth c ls X K hr hk hl hw
  exact w_V_peerOf fz x1 h _ rfl hp X K hr hk hl hw
theorem isN_V_peerOf (fz : Nat) (x1 : Int32) (h : HH) : isN (B_V_peerOf fz x1 h) := by
  unfold B_V_peerOf
  split
  · exact Or.inr rfl
  · exact Or.inl rfl
set_option maxHeartbeats 4000000 in
set_option maxRecDepth 100000 in
theorem w_L_add_19 (fz : Nat) (i0 : Nat) (n0 : isN i0) (h : HH) (ρ : HH) (hρ : B_L_add_19 fz i0 h = ρ) (hp : P_L_add_19 fz i0 h) (X : CallFix p m c b_L_add 2 s args TB R_L) (K : KK D cI cZ s) (hr : meth.sig.returnType = none) (hk : meth.locks = false) {ls : Array Slot} {H : Heap} {locs : List Loc} (hl : Lc ls 2 [some (.ref (ad (i0 + 8))), none]) (hw : Hw D cI cZ base ad s shape h H locs) : W p l e (rmD 0 0) s m args below meth c H locs 0 0 (MQ below (Qw D cI cZ base ad (pH ρ)) args s 0 0 (fun q => base ≤ q)) (F0 m 19 ls []) := by
  unfold B_L_add_19 at hρ
  unfold P_L_add_19 at hp
  refine lv_aload_n X.1 X.2.1 d_L_add_19 rfl (hl.at 0 rfl) ?_
  refine lv_dup X.1 X.2.1 d_L_add_20 rfl ?_
  refine r_geti X K hw fg_L_15 (shp_L n0) rfl d_L_add_21 ?_
  refine lv_iconst (v := (1 : Int32)) X.1 X.2.1 d_L_add_24 (by decide) ?_
  refine lv_iadd X.1 X.2.1 d_L_add_25 ?_
  refine r_put X K hw fp_L_15 (shp_L n0) rfl rfl rfl d_L_add_26 (fun H locs hw => ?_)
  exact r_vret X hr hk hw ⟨rfl, hρ.symm⟩ d_L_add_29
set_option maxHeartbeats 4000000 in
set_option maxRecDepth 100000 in
theorem w_L_add (fz : Nat) (i0 : Nat) (n0 : isN i0) (x1 : Int32) (h : HH) (ρ : HH) (hρ : B_L_add fz i0 x1 h = ρ) (hp : P_L_add fz i0 x1 h) (X : CallFix p m c b_L_add 2 s args TB R_L) (K : KK D cI cZ s) (hr : meth.sig.returnType = none) (hk : meth.locks = false) {ls : Array Slot} {H : Heap} {locs : List Loc} (hl : Lc ls 2 [some (.ref (ad (i0 + 8))), some (.int x1)]) (hw : Hw D cI cZ base ad s shape h H locs) : W p l e (rmD 0 0) s m args below meth c H locs 0 0 (MQ below (Qw D cI cZ base ad (pH ρ)) args s 0 0 (fun q => base ≤ q)) (F0 m 0 ls []) := by
  unfold B_L_add at hρ
  unfold P_L_add at hp
  refine lv_aload_n X.1 X.2.1 d_L_add_0 rfl (hl.at 0 rfl) ?_
  refine r_geti X K hw fg_L_15 (shp_L n0) rfl d_L_add_1 ?_
  refine lv_bipush (v := (8 : Int32)) X.1 X.2.1 d_L_add_4 (by decide) ?_
  refine lv_icmp_ge (tgt := 29) X.1 X.2.1 d_L_add_6 (by decide) (fun g => ?_) (fun g => ?_)
  · rw [if_pos g] at hρ
    have hp := hp.1 g
    exact r_vret X hr hk hw ⟨rfl, hρ.symm⟩ d_L_add_29
  · rw [if_neg g] at hρ
    have hp := hp.2 g
    refine lv_aload_n X.1 X.2.1 d_L_add_9 rfl (hl.at 0 rfl) ?_
    refine r_getr (j := (i0 + 9)) X K hw fg_L_9 (shp_L n0) rfl d_L_add_10 ?_
    refine lv_aload_n X.1 X.2.1 d_L_add_13 rfl (hl.at 0 rfl) ?_
    refine r_geti X K hw fg_L_15 (shp_L n0) rfl d_L_add_14 ?_
    refine lv_iload_n X.1 X.2.1 d_L_add_17 rfl (hl.at 1 rfl) ?_
    refine r_ast X K hw (sha_9 n0) hp.1 d_L_add_18 (fun H locs hw => ?_)
    have hp := hp.2
    have hl : Lc ls 2 [some (.ref (ad (i0 + 8))), none] := hl.mask [true, false]
    exact w_L_add_19 fz i0 n0 (u2 h (i0 + 9) (ix (h (i0 + 8) 1)) x1) ρ hρ hp X K hr hk hl hw
set_option maxRecDepth 100000 in
theorem c_L_add (l : Launch) (D : va_G) (cI cZ : ClassId) (base : Nat) (ad : Nat → Nat) (fz : Nat) (i0 : Nat) (n0 : isN i0) (x1 : Int32) (h : HH) (hp : P_L_add fz i0 x1 h) : Ct l D cI cZ base ad y_L_add b_L_add 2 none 0 0 [.ref (ad (i0 + 8)), .int x1] h (pH (B_L_add fz i0 x1 h)) := by
  refine Ct.of (by decide) (Nat.le_of_ble_eq_true rfl) (cat_ok rfl) ?_
  intro p e s m args below meth c ls X K hr hk hl hw
  exact w_L_add fz i0 n0 x1 h _ rfl hp X K hr hk hl hw
set_option maxHeartbeats 4000000 in
set_option maxRecDepth 100000 in
theorem w_T_changeFates_3 (X : CallFix p m c b_T_changeFates 5 s args TB R_T) (K : KK D cI cZ s) (hr : meth.sig.returnType = none) (hk : meth.locks = false) (fz : Nat) : ∀ (fu : Nat) (x1 : Int32) (x2 : Int32) (x3 : Int32) (x4 : Int32) (h : HH) (ρ : HH) (_ : B_T_changeFates_3 fz fu x1 x2 x3 x4 h = ρ) (_ : P_T_changeFates_3 fz fu x1 x2 x3 x4 h) {ls : Array Slot} {H : Heap} {locs : List Loc} (_ : Lc ls 5 [some (.ref (ad 21)), some (.int x1), some (.int x2), some (.int x3), some (.int x4)]) (_ : Hw D cI cZ base ad s shape h H locs), W p l e (rmD 0 0) s m args below meth c H locs 0 0 (MQ below (Qw D cI cZ base ad (pH ρ)) args s 0 0 (fun q => base ≤ q)) (F0 m 3 ls []) := by
  intro fu
  induction fu with
  | zero =>
    intro x1 x2 x3 x4 h ρ hρ hp ls H locs hl hw
    exact hp.elim
  | succ fu ih =>
    intro x1 x2 x3 x4 h ρ hρ hp ls H locs hl hw
    rw [B_T_changeFates_3] at hρ
    rw [P_T_changeFates_3] at hp
    refine lv_iload X.1 X.2.1 d_T_changeFates_3 (hl.at 4 rfl) ?_
    refine lv_aload_n X.1 X.2.1 d_T_changeFates_5 rfl (hl.at 0 rfl) ?_
    refine r_geti X K hw fg_T_27 rfl rfl d_T_changeFates_6 ?_
    refine lv_icmp_gt (tgt := 48) X.1 X.2.1 d_T_changeFates_9 (by decide) (fun g => ?_) (fun g => ?_)
    · rw [if_pos g] at hρ
      have hp := hp.1 g
      exact r_vret X hr hk hw ⟨rfl, hρ.symm⟩ d_T_changeFates_48
    · rw [if_neg g] at hρ
      have hp := hp.2 g
      refine lv_aload_n X.1 X.2.1 d_T_changeFates_12 rfl (hl.at 0 rfl) ?_
      refine r_getr (j := 22) X K hw fg_T_9 rfl rfl d_T_changeFates_13 ?_
      refine lv_iload X.1 X.2.1 d_T_changeFates_16 (hl.at 4 rfl) ?_
      refine r_ald X K hw rfl hp.1 d_T_changeFates_18 ?_
      have hp := hp.2
      refine lv_iload_n X.1 X.2.1 d_T_changeFates_19 rfl (hl.at 1 rfl) ?_
      refine lv_icmp_ne (tgt := 42) X.1 X.2.1 d_T_changeFates_20 (by decide) (fun g => ?_) (fun g => ?_)
      · rw [if_neg g] at hρ
        have hp := hp.2 g
        refine lv_iincL X.1 X.2.1 hl (v := (x4 + 1)) d_T_changeFates_42 rfl (congrArg (fun z => x4 + z) (by decide)) (by decide) (fun ls hl => ?_)
        have hl : Lc ls 5 [some (.ref (ad 21)), some (.int x1), some (.int x2), some (.int x3), some (.int (x4 + 1))] := hl
        refine lv_goto (tgt := 3) X.1 X.2.1 d_T_changeFates_45 (by decide) ?_
        exact ih x1 x2 x3 (x4 + 1) h ρ hρ hp hl hw
      · rw [if_pos g] at hρ
        have hp := hp.1 g
        refine lv_aload_n X.1 X.2.1 d_T_changeFates_23 rfl (hl.at 0 rfl) ?_
        refine r_getr (j := 26) X K hw fg_T_24 rfl rfl d_T_changeFates_24 ?_
        refine lv_iload X.1 X.2.1 d_T_changeFates_27 (hl.at 4 rfl) ?_
        refine r_ald X K hw rfl hp.1 d_T_changeFates_29 ?_
        have hp := hp.2
        refine lv_iload_n X.1 X.2.1 d_T_changeFates_30 rfl (hl.at 2 rfl) ?_
        refine lv_icmp_ne (tgt := 42) X.1 X.2.1 d_T_changeFates_31 (by decide) (fun g => ?_) (fun g => ?_)
        · rw [if_neg g] at hρ
          have hp := hp.2 g
          refine lv_iincL X.1 X.2.1 hl (v := (x4 + 1)) d_T_changeFates_42 rfl (congrArg (fun z => x4 + z) (by decide)) (by decide) (fun ls hl => ?_)
          have hl : Lc ls 5 [some (.ref (ad 21)), some (.int x1), some (.int x2), some (.int x3), some (.int (x4 + 1))] := hl
          refine lv_goto (tgt := 3) X.1 X.2.1 d_T_changeFates_45 (by decide) ?_
          exact ih x1 x2 x3 (x4 + 1) h ρ hρ hp hl hw
        · rw [if_pos g] at hρ
          have hp := hp.1 g
          refine lv_aload_n X.1 X.2.1 d_T_changeFates_34 rfl (hl.at 0 rfl) ?_
          refine r_getr (j := 26) X K hw fg_T_24 rfl rfl d_T_changeFates_35 ?_
          refine lv_iload X.1 X.2.1 d_T_changeFates_38 (hl.at 4 rfl) ?_
          refine lv_iload_n X.1 X.2.1 d_T_changeFates_40 rfl (hl.at 3 rfl) ?_
          refine r_ast X K hw rfl hp.1 d_T_changeFates_41 (fun H locs hw => ?_)
          have hp := hp.2
          refine lv_iincL X.1 X.2.1 hl (v := (x4 + 1)) d_T_changeFates_42 rfl (congrArg (fun z => x4 + z) (by decide)) (by decide) (fun ls hl => ?_)
          have hl : Lc ls 5 [some (.ref (ad 21)), some (.int x1), some (.int x2), some (.int x3), some (.int (x4 + 1))] := hl
          refine lv_goto (tgt := 3) X.1 X.2.1 d_T_changeFates_45 (by decide) ?_
          exact ih x1 x2 x3 (x4 + 1) (u2 h 26 (ix x4) x3) ρ hρ hp hl hw
set_option maxHeartbeats 4000000 in
set_option maxRecDepth 100000 in
theorem w_T_changeFates (fz : Nat) (x1 : Int32) (x2 : Int32) (x3 : Int32) (h : HH) (ρ : HH) (hρ : B_T_changeFates fz x1 x2 x3 h = ρ) (hp : P_T_changeFates fz x1 x2 x3 h) (X : CallFix p m c b_T_changeFates 5 s args TB R_T) (K : KK D cI cZ s) (hr : meth.sig.returnType = none) (hk : meth.locks = false) {ls : Array Slot} {H : Heap} {locs : List Loc} (hl : Lc ls 5 [some (.ref (ad 21)), some (.int x1), some (.int x2), some (.int x3), none]) (hw : Hw D cI cZ base ad s shape h H locs) : W p l e (rmD 0 0) s m args below meth c H locs 0 0 (MQ below (Qw D cI cZ base ad (pH ρ)) args s 0 0 (fun q => base ≤ q)) (F0 m 0 ls []) := by
  unfold B_T_changeFates at hρ
  unfold P_T_changeFates at hp
  refine lv_iconst (v := (1 : Int32)) X.1 X.2.1 d_T_changeFates_0 (by decide) ?_
  refine r_istore X hl d_T_changeFates_1 (by decide) (fun ls hl => ?_)
  have hl : Lc ls 5 [some (.ref (ad 21)), some (.int x1), some (.int x2), some (.int x3), some (.int (1 : Int32))] := hl
  exact w_T_changeFates_3 X K hr hk fz fz x1 x2 x3 (1 : Int32) h ρ hρ hp hl hw
set_option maxRecDepth 100000 in
theorem c_T_changeFates (l : Launch) (D : va_G) (cI cZ : ClassId) (base : Nat) (ad : Nat → Nat) (fz : Nat) (x1 : Int32) (x2 : Int32) (x3 : Int32) (h : HH) (hp : P_T_changeFates fz x1 x2 x3 h) : Ct l D cI cZ base ad y_T_changeFates b_T_changeFates 5 none 0 0 [.ref (ad 21), .int x1, .int x2, .int x3] h (pH (B_T_changeFates fz x1 x2 x3 h)) := by
  refine Ct.of (by decide) (Nat.le_of_ble_eq_true rfl) (cat_ok rfl) ?_
  intro p e s m args below meth c ls X K hr hk hl hw
  exact w_T_changeFates fz x1 x2 x3 h _ rfl hp X K hr hk hl hw
set_option maxHeartbeats 4000000 in
set_option maxRecDepth 100000 in
theorem w_V_end_28 (fz : Nat) (i1 : Nat) (n1 : isN i1) (h : HH) (ρ : HH) (hρ : B_V_end_28 fz i1 h = ρ) (hp : P_V_end_28 fz i1 h) (X : CallFix p m c b_V_end 2 s args TB R_V) (K : KK D cI cZ s) (hr : meth.sig.returnType = none) (hk : meth.locks = false) {ls : Array Slot} {H : Heap} {locs : List Loc} (hl : Lc ls 2 [none, some (.ref (ad i1))]) (hw : Hw D cI cZ base ad s shape h H locs) : W p l e (rmD 1 24) s m args below meth c H locs 0 0 (MQ below (Qw D cI cZ base ad (pH ρ)) args s 0 0 (fun q => base ≤ q)) (F0 m 28 ls []) := by
  unfold B_V_end_28 at hρ
  unfold P_V_end_28 at hp
  refine lv_aload_n X.1 X.2.1 d_V_end_28 rfl (hl.at 1 rfl) ?_
  refine r_getr (j := (i1 + 4)) X K hw fg_V_94 (shp_N n1) rfl d_V_end_29 ?_
  refine lv_iconst (v := (5 : Int32)) X.1 X.2.1 d_V_end_32 (by decide) ?_
  refine lv_aload_n X.1 X.2.1 d_V_end_33 rfl (hl.at 1 rfl) ?_
  refine r_geti X K hw fg_V_197 (shp_N n1) rfl d_V_end_34 ?_
  refine lv_iconst (v := (0 : Int32)) X.1 X.2.1 d_V_end_37 (by decide) ?_
  refine r_callV (rest := []) X K hw hl.1 mf_V_98 (shp_O n1) rfl rfl (c_O_send l D cI cZ base ad fz i1 n1 (5 : Int32) (h i1 6) (0 : Int32) h hp.1) (by decide) ⟨Nat.le_refl _, Nat.le_refl _⟩ rfl rfl (Nat.le_of_ble_eq_true rfl) d_V_end_38 (fun v h' H locs q hw => ?_)
  obtain ⟨rfl, rfl⟩ := q
  have hp := hp.2
  exact r_vret X hr hk hw ⟨rfl, hρ.symm⟩ d_V_end_41
set_option maxHeartbeats 4000000 in
set_option maxRecDepth 100000 in
theorem w_V_end_15 (fz : Nat) (i1 : Nat) (n1 : isN i1) (h : HH) (ρ : HH) (hρ : B_V_end_15 fz i1 h = ρ) (hp : P_V_end_15 fz i1 h) (X : CallFix p m c b_V_end 2 s args TB R_V) (K : KK D cI cZ s) (hr : meth.sig.returnType = none) (hk : meth.locks = false) {ls : Array Slot} {H : Heap} {locs : List Loc} (hl : Lc ls 2 [some (.ref (ad 0)), some (.ref (ad i1))]) (hw : Hw D cI cZ base ad s shape h H locs) : W p l e (rmD 1 24) s m args below meth c H locs 0 0 (MQ below (Qw D cI cZ base ad (pH ρ)) args s 0 0 (fun q => base ≤ q)) (F0 m 15 ls []) := by
  unfold B_V_end_15 at hρ
  unfold P_V_end_15 at hp
  refine lv_aload_n X.1 X.2.1 d_V_end_15 rfl (hl.at 0 rfl) ?_
  refine r_getr (j := 21) X K hw fg_V_24 rfl rfl d_V_end_16 ?_
  refine lv_aload_n X.1 X.2.1 d_V_end_19 rfl (hl.at 1 rfl) ?_
  refine r_geti X K hw fg_V_232 (shp_N n1) rfl d_V_end_20 ?_
  refine lv_iconst (v := (3 : Int32)) X.1 X.2.1 d_V_end_23 (by decide) ?_
  refine lv_iconst (v := (2 : Int32)) X.1 X.2.1 d_V_end_24 (by decide) ?_
  refine r_callV (rest := []) X K hw hl.1 mf_V_185 rfl rfl rfl (c_T_changeFates l D cI cZ base ad fz (h i1 0) (3 : Int32) (2 : Int32) h hp.1) (by decide) ⟨Nat.le_refl _, Nat.le_refl _⟩ rfl rfl (Nat.le_of_ble_eq_true rfl) d_V_end_25 (fun v h' H locs q hw => ?_)
  obtain ⟨rfl, rfl⟩ := q
  have hp := hp.2
  have hl : Lc ls 2 [none, some (.ref (ad i1))] := hl.mask [false, true]
  exact w_V_end_28 fz i1 n1 (B_T_changeFates fz (h i1 0) (3 : Int32) (2 : Int32) h) ρ hρ hp X K hr hk hl hw
set_option maxHeartbeats 4000000 in
set_option maxRecDepth 100000 in
theorem w_V_end (fz : Nat) (i1 : Nat) (n1 : isN i1) (h : HH) (ρ : HH) (hρ : B_V_end fz i1 h = ρ) (hp : P_V_end fz i1 h) (X : CallFix p m c b_V_end 2 s args TB R_V) (K : KK D cI cZ s) (hr : meth.sig.returnType = none) (hk : meth.locks = false) {ls : Array Slot} {H : Heap} {locs : List Loc} (hl : Lc ls 2 [some (.ref (ad 0)), some (.ref (ad i1))]) (hw : Hw D cI cZ base ad s shape h H locs) : W p l e (rmD 1 24) s m args below meth c H locs 0 0 (MQ below (Qw D cI cZ base ad (pH ρ)) args s 0 0 (fun q => base ≤ q)) (F0 m 0 ls []) := by
  unfold B_V_end at hρ
  unfold P_V_end at hp
  refine lv_aload_n X.1 X.2.1 d_V_end_0 rfl (hl.at 1 rfl) ?_
  refine lv_iconst (v := (0 : Int32)) X.1 X.2.1 d_V_end_1 (by decide) ?_
  refine r_put X K hw fp_V_155 (shp_N n1) rfl (by decide) (by decide) d_V_end_2 (fun H locs hw => ?_)
  refine lv_aload_n X.1 X.2.1 d_V_end_5 rfl (hl.at 1 rfl) ?_
  refine lv_iconst (v := (0 : Int32)) X.1 X.2.1 d_V_end_6 (by decide) ?_
  refine r_put X K hw fp_V_188 (shp_N n1) rfl (by decide) (by decide) d_V_end_7 (fun H locs hw => ?_)
  refine lv_aload_n X.1 X.2.1 d_V_end_10 rfl (hl.at 1 rfl) ?_
  refine lv_iconst (v := (0 : Int32)) X.1 X.2.1 d_V_end_11 (by decide) ?_
  refine r_put X K hw fp_V_200 (shp_N n1) rfl rfl rfl d_V_end_12 (fun H locs hw => ?_)
  exact w_V_end_15 fz i1 n1 (u2 (u2 (u2 h i1 12 (0 : Int32)) i1 9 (0 : Int32)) i1 7 (0 : Int32)) ρ hρ hp X K hr hk hl hw
set_option maxRecDepth 100000 in
theorem c_V_end (l : Launch) (D : va_G) (cI cZ : ClassId) (base : Nat) (ad : Nat → Nat) (fz : Nat) (i1 : Nat) (n1 : isN i1) (h : HH) (hp : P_V_end fz i1 h) : Ct l D cI cZ base ad y_V_end b_V_end 2 none 1 24 [.ref (ad 0), .ref (ad i1)] h (pH (B_V_end fz i1 h)) := by
  refine Ct.of (by decide) (Nat.le_of_ble_eq_true rfl) (cat_ok rfl) ?_
  intro p e s m args below meth c ls X K hr hk hl hw
  exact w_V_end fz i1 n1 h _ rfl hp X K hr hk hl hw
set_option maxHeartbeats 4000000 in
set_option maxRecDepth 100000 in
theorem w_V_takeFromMap_14 (fz : Nat) (i1 : Nat) (n1 : isN i1) (h : HH) (ρ : HH) (hρ : B_V_takeFromMap_14 fz i1 h = ρ) (hp : P_V_takeFromMap_14 fz i1 h) (X : CallFix p m c b_V_takeFromMap 3 s args TB R_V) (K : KK D cI cZ s) (hr : meth.sig.returnType = none) (hk : meth.locks = false) {ls : Array Slot} {H : Heap} {locs : List Loc} (hl : Lc ls 3 [some (.ref (ad 0)), some (.ref (ad i1)), none]) (hw : Hw D cI cZ base ad s shape h H locs) : W p l e (rmD 2 45) s m args below meth c H locs 0 0 (MQ below (Qw D cI cZ base ad (pH ρ)) args s 0 0 (fun q => base ≤ q)) (F0 m 14 ls []) := by
  unfold B_V_takeFromMap_14 at hρ
  unfold P_V_takeFromMap_14 at hp
  refine lv_aload_n X.1 X.2.1 d_V_takeFromMap_14 rfl (hl.at 1 rfl) ?_
  refine r_geti X K hw fg_V_166 (shp_N n1) rfl d_V_takeFromMap_15 ?_
  refine lv_if_ne (tgt := 26) X.1 X.2.1 d_V_takeFromMap_18 (by decide) (fun g => ?_) (fun g => ?_)
  · rw [if_neg g] at hρ
    have hp := hp.2 g
    exact r_vret X hr hk hw ⟨rfl, hρ.symm⟩ d_V_takeFromMap_26
  · rw [if_pos g] at hρ
    have hp := hp.1 g
    refine lv_aload_n X.1 X.2.1 d_V_takeFromMap_21 rfl (hl.at 0 rfl) ?_
    refine lv_aload_n X.1 X.2.1 d_V_takeFromMap_22 rfl (hl.at 1 rfl) ?_
    refine r_callV (rest := []) X K hw hl.1 mf_V_228 rfl rfl rfl (c_V_end l D cI cZ base ad fz i1 n1 h hp.1) (by decide) ⟨Nat.le_refl _, Nat.le_refl _⟩ rfl rfl (Nat.le_of_ble_eq_true rfl) d_V_takeFromMap_23 (fun v h' H locs q hw => ?_)
    obtain ⟨rfl, rfl⟩ := q
    have hp := hp.2
    exact r_vret X hr hk hw ⟨rfl, hρ.symm⟩ d_V_takeFromMap_26
set_option maxHeartbeats 4000000 in
set_option maxRecDepth 100000 in
theorem w_V_takeFromMap (fz : Nat) (i1 : Nat) (n1 : isN i1) (x2 : Int32) (h : HH) (ρ : HH) (hρ : B_V_takeFromMap fz i1 x2 h = ρ) (hp : P_V_takeFromMap fz i1 x2 h) (X : CallFix p m c b_V_takeFromMap 3 s args TB R_V) (K : KK D cI cZ s) (hr : meth.sig.returnType = none) (hk : meth.locks = false) {ls : Array Slot} {H : Heap} {locs : List Loc} (hl : Lc ls 3 [some (.ref (ad 0)), some (.ref (ad i1)), some (.int x2)]) (hw : Hw D cI cZ base ad s shape h H locs) : W p l e (rmD 2 45) s m args below meth c H locs 0 0 (MQ below (Qw D cI cZ base ad (pH ρ)) args s 0 0 (fun q => base ≤ q)) (F0 m 0 ls []) := by
  unfold B_V_takeFromMap at hρ
  unfold P_V_takeFromMap at hp
  refine lv_aload_n X.1 X.2.1 d_V_takeFromMap_0 rfl (hl.at 1 rfl) ?_
  refine lv_dup X.1 X.2.1 d_V_takeFromMap_1 rfl ?_
  refine r_geti X K hw fg_V_166 (shp_N n1) rfl d_V_takeFromMap_2 ?_
  refine lv_iconst (v := (1 : Int32)) X.1 X.2.1 d_V_takeFromMap_5 (by decide) ?_
  refine lv_iload_n X.1 X.2.1 d_V_takeFromMap_6 rfl (hl.at 2 rfl) ?_
  refine lv_ishl X.1 X.2.1 d_V_takeFromMap_7 ?_
  refine lv_iconst (v := (-1 : Int32)) X.1 X.2.1 d_V_takeFromMap_8 (by decide) ?_
  refine lv_ixor X.1 X.2.1 d_V_takeFromMap_9 ?_
  refine lv_iand X.1 X.2.1 d_V_takeFromMap_10 ?_
  refine r_put X K hw fp_V_166 (shp_N n1) rfl rfl rfl d_V_takeFromMap_11 (fun H locs hw => ?_)
  have hl : Lc ls 3 [some (.ref (ad 0)), some (.ref (ad i1)), none] := hl.mask [true, true, false]
  exact w_V_takeFromMap_14 fz i1 n1 (u2 h i1 5 ((h i1 5) &&& (((1 : Int32) <<< (x2 &&& 31)) ^^^ (-1 : Int32)))) ρ hρ hp X K hr hk hl hw
set_option maxRecDepth 100000 in
theorem c_V_takeFromMap (l : Launch) (D : va_G) (cI cZ : ClassId) (base : Nat) (ad : Nat → Nat) (fz : Nat) (i1 : Nat) (n1 : isN i1) (x2 : Int32) (h : HH) (hp : P_V_takeFromMap fz i1 x2 h) : Ct l D cI cZ base ad y_V_takeFromMap b_V_takeFromMap 3 none 2 45 [.ref (ad 0), .ref (ad i1), .int x2] h (pH (B_V_takeFromMap fz i1 x2 h)) := by
  refine Ct.of (by decide) (Nat.le_of_ble_eq_true rfl) (cat_ok rfl) ?_
  intro p e s m args below meth c ls X K hr hk hl hw
  exact w_V_takeFromMap fz i1 n1 x2 h _ rfl hp X K hr hk hl hw
set_option maxHeartbeats 4000000 in
set_option maxRecDepth 100000 in
theorem w_V_takeAck_10 (fz : Nat) (i1 : Nat) (n1 : isN i1) (x2 : Int32) (h : HH) (ρ : HH) (hρ : B_V_takeAck_10 fz i1 x2 h = ρ) (hp : P_V_takeAck_10 fz i1 x2 h) (X : CallFix p m c b_V_takeAck 3 s args TB R_V) (K : KK D cI cZ s) (hr : meth.sig.returnType = none) (hk : meth.locks = false) {ls : Array Slot} {H : Heap} {locs : List Loc} (hl : Lc ls 3 [some (.ref (ad 0)), some (.ref (ad i1)), some (.int x2)]) (hw : Hw D cI cZ base ad s shape h H locs) : W p l e (rmD 3 67) s m args below meth c H locs 0 0 (MQ below (Qw D cI cZ base ad (pH ρ)) args s 0 0 (fun q => base ≤ q)) (F0 m 10 ls []) := by
  unfold B_V_takeAck_10 at hρ
  unfold P_V_takeAck_10 at hp
  refine lv_aload_n X.1 X.2.1 d_V_takeAck_10 rfl (hl.at 1 rfl) ?_
  refine r_geti X K hw fg_V_155 (shp_N n1) rfl d_V_takeAck_11 ?_
  refine lv_if_eq (tgt := 31) X.1 X.2.1 d_V_takeAck_14 (by decide) (fun g => ?_) (fun g => ?_)
  · rw [if_pos g] at hρ
    have hp := hp.1 g
    exact r_vret X hr hk hw ⟨rfl, hρ.symm⟩ d_V_takeAck_31
  · rw [if_neg g] at hρ
    have hp := hp.2 g
    refine lv_aload_n X.1 X.2.1 d_V_takeAck_17 rfl (hl.at 0 rfl) ?_
    refine lv_aload_n X.1 X.2.1 d_V_takeAck_18 rfl (hl.at 1 rfl) ?_
    refine lv_aload_n X.1 X.2.1 d_V_takeAck_19 rfl (hl.at 0 rfl) ?_
    refine r_getr (j := 21) X K hw fg_V_24 rfl rfl d_V_takeAck_20 ?_
    refine r_getr (j := 23) X K hw fg_V_149 rfl rfl d_V_takeAck_23 ?_
    refine lv_iload_n X.1 X.2.1 d_V_takeAck_26 rfl (hl.at 2 rfl) ?_
    refine r_ald X K hw rfl hp.1 d_V_takeAck_27 ?_
    have hp := hp.2
    refine r_callV (rest := []) X K hw hl.1 mf_V_222 rfl rfl rfl (c_V_takeFromMap l D cI cZ base ad fz i1 n1 (h 23 (ix x2)) h hp.1) (by decide) ⟨Nat.le_refl _, Nat.le_refl _⟩ rfl rfl (Nat.le_of_ble_eq_true rfl) d_V_takeAck_28 (fun v h' H locs q hw => ?_)
    obtain ⟨rfl, rfl⟩ := q
    have hp := hp.2
    exact r_vret X hr hk hw ⟨rfl, hρ.symm⟩ d_V_takeAck_31
set_option maxHeartbeats 4000000 in
set_option maxRecDepth 100000 in
theorem w_V_takeAck (fz : Nat) (i1 : Nat) (n1 : isN i1) (x2 : Int32) (h : HH) (ρ : HH) (hρ : B_V_takeAck fz i1 x2 h = ρ) (hp : P_V_takeAck fz i1 x2 h) (X : CallFix p m c b_V_takeAck 3 s args TB R_V) (K : KK D cI cZ s) (hr : meth.sig.returnType = none) (hk : meth.locks = false) {ls : Array Slot} {H : Heap} {locs : List Loc} (hl : Lc ls 3 [some (.ref (ad 0)), some (.ref (ad i1)), some (.int x2)]) (hw : Hw D cI cZ base ad s shape h H locs) : W p l e (rmD 3 67) s m args below meth c H locs 0 0 (MQ below (Qw D cI cZ base ad (pH ρ)) args s 0 0 (fun q => base ≤ q)) (F0 m 0 ls []) := by
  unfold B_V_takeAck at hρ
  unfold P_V_takeAck at hp
  refine lv_aload_n X.1 X.2.1 d_V_takeAck_0 rfl (hl.at 0 rfl) ?_
  refine r_getr (j := 21) X K hw fg_V_24 rfl rfl d_V_takeAck_1 ?_
  refine r_getr (j := 26) X K hw fg_V_206 rfl rfl d_V_takeAck_4 ?_
  refine lv_iload_n X.1 X.2.1 d_V_takeAck_7 rfl (hl.at 2 rfl) ?_
  refine lv_iconst (v := (2 : Int32)) X.1 X.2.1 d_V_takeAck_8 (by decide) ?_
  refine r_ast X K hw rfl hp.1 d_V_takeAck_9 (fun H locs hw => ?_)
  have hp := hp.2
  exact w_V_takeAck_10 fz i1 n1 x2 (u2 h 26 (ix x2) (2 : Int32)) ρ hρ hp X K hr hk hl hw
set_option maxRecDepth 100000 in
theorem c_V_takeAck (l : Launch) (D : va_G) (cI cZ : ClassId) (base : Nat) (ad : Nat → Nat) (fz : Nat) (i1 : Nat) (n1 : isN i1) (x2 : Int32) (h : HH) (hp : P_V_takeAck fz i1 x2 h) : Ct l D cI cZ base ad y_V_takeAck b_V_takeAck 3 none 3 67 [.ref (ad 0), .ref (ad i1), .int x2] h (pH (B_V_takeAck fz i1 x2 h)) := by
  refine Ct.of (by decide) (Nat.le_of_ble_eq_true rfl) (cat_ok rfl) ?_
  intro p e s m args below meth c ls X K hr hk hl hw
  exact w_V_takeAck fz i1 n1 x2 h _ rfl hp X K hr hk hl hw
end WALK
