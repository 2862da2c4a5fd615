section WALK
variable {p : Program} {l : Launch} {e : Env} {s : State} {m : MethodId} {args : Array Value} {below : List Frame} {meth : Method} {c : Code} {D : va_G} {cI cZ : ClassId} {base : Nat} {ad : Nat → Nat} {R : Room} {Q : State → Prop} {cells slots : Nat}
set_option maxHeartbeats 4000000 in
set_option maxRecDepth 100000 in
theorem w_V_restart_31 (fz : Nat) (i2 : Nat) (n2 : isN i2) (h : HH) (ρ : Int32 × HH) (hρ : B_V_restart_31 fz i2 h = ρ) (hp : P_V_restart_31 fz i2 h) (X : CallFix p m c b_V_restart 3 s args TB R_V) (K : KK D cI cZ s) (hr : meth.sig.returnType = (some .boolean)) (hk : meth.locks = false) {ls : Array Slot} {H : Heap} {locs : List Loc} (hl : Lc ls 3 [none, none, some (.ref (ad i2))]) (hw : Hw D cI cZ base ad s shape h H locs) : W p l e (rmD 2 42) s m args below meth c H locs 0 0 (MQ below (Qw D cI cZ base ad (pIH ρ)) args s 0 0 (fun q => base ≤ q)) (F0 m 31 ls []) := by
  unfold B_V_restart_31 at hρ
  unfold P_V_restart_31 at hp
  refine lv_aload_n X.1 X.2.1 d_V_restart_31 rfl (hl.at 2 rfl) ?_
  refine r_geti X K hw fg_V_188 (shp_N n2) rfl d_V_restart_32 ?_
  refine lv_if_eq (tgt := 54) X.1 X.2.1 d_V_restart_35 (by decide) (fun g => ?_) (fun g => ?_)
  · rw [if_pos g] at hρ
    have hp := hp.1 g
    refine lv_iconst (v := (1 : Int32)) X.1 X.2.1 d_V_restart_54 (by decide) ?_
    exact r_zret X hr hk hw (by decide) ⟨congrArg (fun z => some (Value.int z.1)) hρ, (congrArg Prod.snd hρ).symm⟩ d_V_restart_55
  · rw [if_neg g] at hρ
    have hp := hp.2 g
    refine lv_aload_n X.1 X.2.1 d_V_restart_38 rfl (hl.at 2 rfl) ?_
    refine lv_dup X.1 X.2.1 d_V_restart_39 rfl ?_
    refine r_geti X K hw fg_V_166 (shp_N n2) rfl d_V_restart_40 ?_
    refine lv_aload_n X.1 X.2.1 d_V_restart_43 rfl (hl.at 2 rfl) ?_
    refine r_getr (j := (i2 + 2)) X K hw fg_V_64 (shp_N n2) rfl d_V_restart_44 ?_
    refine r_callV (rest := [.int (h i2 5), .ref (ad i2)]) X K hw hl.1 mf_V_191 (shp_E n2) rfl rfl (c_E_allBlocks l D cI cZ base ad fz i2 n2 h hp.1) (by decide) ⟨Nat.le_refl _, Nat.le_refl _⟩ rfl rfl (Nat.le_of_ble_eq_true rfl) d_V_restart_47 (fun v h' H locs q hw => ?_)
    obtain ⟨rfl, rfl⟩ := q
    have hp := hp.2
    refine lv_ior X.1 X.2.1 d_V_restart_50 ?_
    refine r_put X K hw fp_V_166 (shp_N n2) rfl rfl rfl d_V_restart_51 (fun H locs hw => ?_)
    refine lv_iconst (v := (1 : Int32)) X.1 X.2.1 d_V_restart_54 (by decide) ?_
    exact r_zret X hr hk hw (by decide) ⟨congrArg (fun z => some (Value.int z.1)) hρ, (congrArg Prod.snd hρ).symm⟩ d_V_restart_55
set_option maxHeartbeats 4000000 in
set_option maxRecDepth 100000 in
theorem w_V_restart (fz : Nat) (x1 : Int32) (h : HH) (ρ : Int32 × HH) (hρ : B_V_restart fz x1 h = ρ) (hp : P_V_restart fz x1 h) (X : CallFix p m c b_V_restart 3 s args TB R_V) (K : KK D cI cZ s) (hr : meth.sig.returnType = (some .boolean)) (hk : meth.locks = false) {ls : Array Slot} {H : Heap} {locs : List Loc} (hl : Lc ls 3 [some (.ref (ad 0)), some (.int x1), none]) (hw : Hw D cI cZ base ad s shape h H locs) : W p l e (rmD 2 42) s m args below meth c H locs 0 0 (MQ below (Qw D cI cZ base ad (pIH ρ)) args s 0 0 (fun q => base ≤ q)) (F0 m 0 ls []) := by
  unfold B_V_restart at hρ
  unfold P_V_restart at hp
  refine lv_iload_n X.1 X.2.1 d_V_restart_0 rfl (hl.at 1 rfl) ?_
  refine r_callS (rest := []) X K hw hl.1 mf_V_36 (c_V_isNode l D cI cZ base ad fz x1 h hp.1) (by decide) ⟨Nat.le_refl _, Nat.le_refl _⟩ rfl rfl (Nat.le_of_ble_eq_true rfl) d_V_restart_1 (fun v h' H locs q hw => ?_)
  obtain ⟨rfl, rfl⟩ := q
  have hp := hp.2
  refine lv_if_eq (tgt := 18) X.1 X.2.1 d_V_restart_4 (by decide) (fun g => ?_) (fun g => ?_)
  · rw [if_pos g] at hρ
    have hp := hp.1 g
    refine lv_iconst (v := (0 : Int32)) X.1 X.2.1 d_V_restart_18 (by decide) ?_
    exact r_zret X hr hk hw (by decide) ⟨congrArg (fun z => some (Value.int z.1)) hρ, (congrArg Prod.snd hρ).symm⟩ d_V_restart_19
  · rw [if_neg g] at hρ
    have hp := hp.2 g
    refine lv_aload_n X.1 X.2.1 d_V_restart_7 rfl (hl.at 0 rfl) ?_
    refine lv_iload_n X.1 X.2.1 d_V_restart_8 rfl (hl.at 1 rfl) ?_
    refine r_callV (rest := []) X K hw hl.1 mf_V_43 rfl rfl rfl (c_V_nodeOf l D cI cZ base ad fz x1 h hp.1) (by decide) ⟨Nat.le_refl _, Nat.le_refl _⟩ rfl rfl (Nat.le_of_ble_eq_true rfl) d_V_restart_9 (fun v h' H locs q hw => ?_)
    obtain ⟨rfl, rfl⟩ := q
    have hp := hp.2
    refine r_geti X K hw fg_V_47 (shp_N (isN_V_nodeOf fz x1 h)) rfl d_V_restart_12 ?_
    refine lv_if_eq (tgt := 20) X.1 X.2.1 d_V_restart_15 (by decide) (fun g => ?_) (fun g => ?_)
    · rw [if_pos g] at hρ
      have hp := hp.1 g
      refine lv_aload_n X.1 X.2.1 d_V_restart_20 rfl (hl.at 0 rfl) ?_
      refine lv_iload_n X.1 X.2.1 d_V_restart_21 rfl (hl.at 1 rfl) ?_
      refine r_callV (rest := []) X K hw hl.1 mf_V_43 rfl rfl rfl (c_V_nodeOf l D cI cZ base ad fz x1 h hp.1) (by decide) ⟨Nat.le_refl _, Nat.le_refl _⟩ rfl rfl (Nat.le_of_ble_eq_true rfl) d_V_restart_22 (fun v h' H locs q hw => ?_)
      obtain ⟨rfl, rfl⟩ := q
      have hp := hp.2
      refine r_astore_n X hl d_V_restart_25 rfl (by decide) (fun ls hl => ?_)
      have hl : Lc ls 3 [some (.ref (ad 0)), some (.int x1), some (.ref (ad (B_V_nodeOf fz x1 h)))] := hl
      refine lv_aload_n X.1 X.2.1 d_V_restart_26 rfl (hl.at 2 rfl) ?_
      refine lv_iconst (v := (1 : Int32)) X.1 X.2.1 d_V_restart_27 (by decide) ?_
      refine r_put X K hw fp_V_47 (shp_N (isN_V_nodeOf fz x1 h)) rfl (by decide) (by decide) d_V_restart_28 (fun H locs hw => ?_)
      have hl : Lc ls 3 [none, none, some (.ref (ad (B_V_nodeOf fz x1 h)))] := hl.mask [false, false, true]
      exact w_V_restart_31 fz (B_V_nodeOf fz x1 h) (isN_V_nodeOf fz x1 h) (u2 h (B_V_nodeOf fz x1 h) 10 (1 : Int32)) ρ hρ hp X K hr hk hl hw
    · rw [if_neg g] at hρ
      have hp := hp.2 g
      refine lv_iconst (v := (0 : Int32)) X.1 X.2.1 d_V_restart_18 (by decide) ?_
      exact r_zret X hr hk hw (by decide) ⟨congrArg (fun z => some (Value.int z.1)) hρ, (congrArg Prod.snd hρ).symm⟩ d_V_restart_19
set_option maxRecDepth 100000 in
theorem c_V_restart (l : Launch) (D : va_G) (cI cZ : ClassId) (base : Nat) (ad : Nat → Nat) (fz : Nat) (x1 : Int32) (h : HH) (hp : P_V_restart fz x1 h) : Ct l D cI cZ base ad y_V_restart b_V_restart 3 (some .boolean) 2 42 [.ref (ad 0), .int x1] h (pIH (B_V_restart fz x1 h)) := by
  refine Ct.of (by decide) (Nat.le_of_ble_eq_true rfl) (cat_ok rfl) ?_
  intro p e s m args below meth c ls X K hr hk hl hw
  exact w_V_restart fz x1 h _ rfl hp X K hr hk hl hw
set_option maxHeartbeats 4000000 in
set_option maxRecDepth 100000 in
theorem w_V_promote_56 (fz : Nat) (i2 : Nat) (n2 : isN i2) (h : HH) (ρ : Int32 × HH) (hρ : B_V_promote_56 fz i2 h = ρ) (hp : P_V_promote_56 fz i2 h) (X : CallFix p m c b_V_promote 3 s args TB R_V) (K : KK D cI cZ s) (hr : meth.sig.returnType = (some .int)) (hk : meth.locks = false) {ls : Array Slot} {H : Heap} {locs : List Loc} (hl : Lc ls 3 [none, none, some (.ref (ad i2))]) (hw : Hw D cI cZ base ad s shape h H locs) : W p l e (rmD 1 21) s m args below meth c H locs 0 0 (MQ below (Qw D cI cZ base ad (pIH ρ)) args s 0 0 (fun q => base ≤ q)) (F0 m 56 ls []) := by
  unfold B_V_promote_56 at hρ
  unfold P_V_promote_56 at hp
  refine lv_aload_n X.1 X.2.1 d_V_promote_56 rfl (hl.at 2 rfl) ?_
  refine lv_iconst (v := (1 : Int32)) X.1 X.2.1 d_V_promote_57 (by decide) ?_
  refine r_put X K hw fp_V_50 (shp_N n2) rfl (by decide) (by decide) d_V_promote_58 (fun H locs hw => ?_)
  refine lv_iconst (v := (0 : Int32)) X.1 X.2.1 d_V_promote_61 (by decide) ?_
  exact r_iret X hr hk hw ⟨congrArg (fun z => some (Value.int z.1)) hρ, (congrArg Prod.snd hρ).symm⟩ d_V_promote_62
set_option maxHeartbeats 4000000 in
set_option maxRecDepth 100000 in
theorem w_V_promote (fz : Nat) (x1 : Int32) (h : HH) (ρ : Int32 × HH) (hρ : B_V_promote fz x1 h = ρ) (hp : P_V_promote fz x1 h) (X : CallFix p m c b_V_promote 3 s args TB R_V) (K : KK D cI cZ s) (hr : meth.sig.returnType = (some .int)) (hk : meth.locks = false) {ls : Array Slot} {H : Heap} {locs : List Loc} (hl : Lc ls 3 [some (.ref (ad 0)), some (.int x1), none]) (hw : Hw D cI cZ base ad s shape h H locs) : W p l e (rmD 1 21) s m args below meth c H locs 0 0 (MQ below (Qw D cI cZ base ad (pIH ρ)) args s 0 0 (fun q => base ≤ q)) (F0 m 0 ls []) := by
  unfold B_V_promote at hρ
  unfold P_V_promote at hp
  refine lv_iload_n X.1 X.2.1 d_V_promote_0 rfl (hl.at 1 rfl) ?_
  refine r_callS (rest := []) X K hw hl.1 mf_V_36 (c_V_isNode l D cI cZ base ad fz x1 h hp.1) (by decide) ⟨Nat.le_refl _, Nat.le_refl _⟩ rfl rfl (Nat.le_of_ble_eq_true rfl) d_V_promote_1 (fun v h' H locs q hw => ?_)
  obtain ⟨rfl, rfl⟩ := q
  have hp := hp.2
  refine lv_if_ne (tgt := 9) X.1 X.2.1 d_V_promote_4 (by decide) (fun g => ?_) (fun g => ?_)
  · rw [if_neg g] at hρ
    have hp := hp.2 g
    refine lv_aload_n X.1 X.2.1 d_V_promote_9 rfl (hl.at 0 rfl) ?_
    refine lv_iload_n X.1 X.2.1 d_V_promote_10 rfl (hl.at 1 rfl) ?_
    refine r_callV (rest := []) X K hw hl.1 mf_V_43 rfl rfl rfl (c_V_nodeOf l D cI cZ base ad fz x1 h hp.1) (by decide) ⟨Nat.le_refl _, Nat.le_refl _⟩ rfl rfl (Nat.le_of_ble_eq_true rfl) d_V_promote_11 (fun v h' H locs q hw => ?_)
    obtain ⟨rfl, rfl⟩ := q
    have hp := hp.2
    refine r_astore_n X hl d_V_promote_14 rfl (by decide) (fun ls hl => ?_)
    have hl : Lc ls 3 [some (.ref (ad 0)), some (.int x1), some (.ref (ad (B_V_nodeOf fz x1 h)))] := hl
    refine lv_aload_n X.1 X.2.1 d_V_promote_15 rfl (hl.at 2 rfl) ?_
    refine r_geti X K hw fg_V_47 (shp_N (isN_V_nodeOf fz x1 h)) rfl d_V_promote_16 ?_
    refine lv_if_ne (tgt := 25) X.1 X.2.1 d_V_promote_19 (by decide) (fun g => ?_) (fun g => ?_)
    · rw [if_neg g] at hρ
      have hp := hp.2 g
      refine lv_aload_n X.1 X.2.1 d_V_promote_25 rfl (hl.at 2 rfl) ?_
      refine r_geti X K hw fg_V_194 (shp_N (isN_V_nodeOf fz x1 h)) rfl d_V_promote_26 ?_
      refine lv_if_eq (tgt := 35) X.1 X.2.1 d_V_promote_29 (by decide) (fun g => ?_) (fun g => ?_)
      · rw [if_pos g] at hρ
        have hp := hp.1 g
        refine lv_aload_n X.1 X.2.1 d_V_promote_35 rfl (hl.at 0 rfl) ?_
        refine r_geti X K hw fg_V_28 rfl rfl d_V_promote_36 ?_
        refine lv_if_eq (tgt := 56) X.1 X.2.1 d_V_promote_39 (by decide) (fun g => ?_) (fun g => ?_)
        · rw [if_pos g] at hρ
          have hp := hp.1 g
          have hl : Lc ls 3 [none, none, some (.ref (ad (B_V_nodeOf fz x1 h)))] := hl.mask [false, false, true]
          exact w_V_promote_56 fz (B_V_nodeOf fz x1 h) (isN_V_nodeOf fz x1 h) h ρ hρ hp X K hr hk hl hw
        · rw [if_neg g] at hρ
          have hp := hp.2 g
          refine lv_aload_n X.1 X.2.1 d_V_promote_42 rfl (hl.at 0 rfl) ?_
          refine lv_iload_n X.1 X.2.1 d_V_promote_43 rfl (hl.at 1 rfl) ?_
          refine r_callV (rest := []) X K hw hl.1 mf_V_126 rfl rfl rfl (c_V_peerOf l D cI cZ base ad fz x1 h hp.1) (by decide) ⟨Nat.le_refl _, Nat.le_refl _⟩ rfl rfl (Nat.le_of_ble_eq_true rfl) d_V_promote_44 (fun v h' H locs q hw => ?_)
          obtain ⟨rfl, rfl⟩ := q
          have hp := hp.2
          refine r_geti X K hw fg_V_50 (shp_N (isN_V_peerOf fz x1 h)) rfl d_V_promote_47 ?_
          refine lv_if_eq (tgt := 56) X.1 X.2.1 d_V_promote_50 (by decide) (fun g => ?_) (fun g => ?_)
          · rw [if_pos g] at hρ
            have hp := hp.1 g
            have hl : Lc ls 3 [none, none, some (.ref (ad (B_V_nodeOf fz x1 h)))] := hl.mask [false, false, true]
            exact w_V_promote_56 fz (B_V_nodeOf fz x1 h) (isN_V_nodeOf fz x1 h) h ρ hρ hp X K hr hk hl hw
          · rw [if_neg g] at hρ
            have hp := hp.2 g
            refine lv_bipush (v := (-7 : Int32)) X.1 X.2.1 d_V_promote_53 (by decide) ?_
            exact r_iret X hr hk hw ⟨congrArg (fun z => some (Value.int z.1)) hρ, (congrArg Prod.snd hρ).symm⟩ d_V_promote_55
      · rw [if_neg g] at hρ
        have hp := hp.2 g
        refine lv_bipush (v := (-6 : Int32)) X.1 X.2.1 d_V_promote_32 (by decide) ?_
        exact r_iret X hr hk hw ⟨congrArg (fun z => some (Value.int z.1)) hρ, (congrArg Prod.snd hρ).symm⟩ d_V_promote_34
    · rw [if_pos g] at hρ
      have hp := hp.1 g
      refine lv_bipush (v := (-2 : Int32)) X.1 X.2.1 d_V_promote_22 (by decide) ?_
      exact r_iret X hr hk hw ⟨congrArg (fun z => some (Value.int z.1)) hρ, (congrArg Prod.snd hρ).symm⟩ d_V_promote_24
  · rw [if_pos g] at hρ
    have hp := hp.1 g
    refine lv_iconst (v := (-1 : Int32)) X.1 X.2.1 d_V_promote_7 (by decide) ?_
    exact r_iret X hr hk hw ⟨congrArg (fun z => some (Value.int z.1)) hρ, (congrArg Prod.snd hρ).symm⟩ d_V_promote_8
set_option maxRecDepth 100000 in
theorem c_V_promote (l : Launch) (D : va_G) (cI cZ : ClassId) (base : Nat) (ad : Nat → Nat) (fz : Nat) (x1 : Int32) (h : HH) (hp : P_V_promote fz x1 h) : Ct l D cI cZ base ad y_V_promote b_V_promote 3 (some .int) 1 21 [.ref (ad 0), .int x1] h (pIH (B_V_promote fz x1 h)) := by
  refine Ct.of (by decide) (Nat.le_of_ble_eq_true rfl) (cat_ok rfl) ?_
  intro p e s m args below meth c ls X K hr hk hl hw
  exact w_V_promote fz x1 h _ rfl hp X K hr hk hl hw
set_option maxHeartbeats 4000000 in
set_option maxRecDepth 100000 in
theorem w_V_demote (fz : Nat) (x1 : Int32) (h : HH) (ρ : Int32 × HH) (hρ : B_V_demote fz x1 h = ρ) (hp : P_V_demote fz x1 h) (X : CallFix p m c b_V_demote 3 s args TB R_V) (K : KK D cI cZ s) (hr : meth.sig.returnType = (some .int)) (hk : meth.locks = false) {ls : Array Slot} {H : Heap} {locs : List Loc} (hl : Lc ls 3 [some (.ref (ad 0)), some (.int x1), none]) (hw : Hw D cI cZ base ad s shape h H locs) : W p l e (rmD 2 45) s m args below meth c H locs 0 0 (MQ below (Qw D cI cZ base ad (pIH ρ)) args s 0 0 (fun q => base ≤ q)) (F0 m 0 ls []) := by
  unfold B_V_demote at hρ
  unfold P_V_demote at hp
  refine lv_iload_n X.1 X.2.1 d_V_demote_0 rfl (hl.at 1 rfl) ?_
  refine r_callS (rest := []) X K hw hl.1 mf_V_36 (c_V_isNode l D cI cZ base ad fz x1 h hp.1) (by decide) ⟨Nat.le_refl _, Nat.le_refl _⟩ rfl rfl (Nat.le_of_ble_eq_true rfl) d_V_demote_1 (fun v h' H locs q hw => ?_)
  obtain ⟨rfl, rfl⟩ := q
  have hp := hp.2
  refine lv_if_ne (tgt := 9) X.1 X.2.1 d_V_demote_4 (by decide) (fun g => ?_) (fun g => ?_)
  · rw [if_neg g] at hρ
    have hp := hp.2 g
    refine lv_aload_n X.1 X.2.1 d_V_demote_9 rfl (hl.at 0 rfl) ?_
    refine lv_iload_n X.1 X.2.1 d_V_demote_10 rfl (hl.at 1 rfl) ?_
    refine r_callV (rest := []) X K hw hl.1 mf_V_43 rfl rfl rfl (c_V_nodeOf l D cI cZ base ad fz x1 h hp.1) (by decide) ⟨Nat.le_refl _, Nat.le_refl _⟩ rfl rfl (Nat.le_of_ble_eq_true rfl) d_V_demote_11 (fun v h' H locs q hw => ?_)
    obtain ⟨rfl, rfl⟩ := q
    have hp := hp.2
    refine r_astore_n X hl d_V_demote_14 rfl (by decide) (fun ls hl => ?_)
    have hl : Lc ls 3 [some (.ref (ad 0)), some (.int x1), some (.ref (ad (B_V_nodeOf fz x1 h)))] := hl
    refine lv_aload_n X.1 X.2.1 d_V_demote_15 rfl (hl.at 2 rfl) ?_
    refine r_geti X K hw fg_V_47 (shp_N (isN_V_nodeOf fz x1 h)) rfl d_V_demote_16 ?_
    refine lv_if_ne (tgt := 25) X.1 X.2.1 d_V_demote_19 (by decide) (fun g => ?_) (fun g => ?_)
    · rw [if_neg g] at hρ
      have hp := hp.2 g
      refine lv_aload_n X.1 X.2.1 d_V_demote_25 rfl (hl.at 2 rfl) ?_
      refine r_geti X K hw fg_V_50 (shp_N (isN_V_nodeOf fz x1 h)) rfl d_V_demote_26 ?_
      refine lv_if_ne (tgt := 35) X.1 X.2.1 d_V_demote_29 (by decide) (fun g => ?_) (fun g => ?_)
      · rw [if_neg g] at hρ
        have hp := hp.2 g
        refine lv_aload_n X.1 X.2.1 d_V_demote_35 rfl (hl.at 0 rfl) ?_
        refine r_getr (j := 21) X K hw fg_V_24 rfl rfl d_V_demote_36 ?_
        refine lv_iload_n X.1 X.2.1 d_V_demote_39 rfl (hl.at 1 rfl) ?_
        refine r_callV (rest := []) X K hw hl.1 mf_V_57 rfl rfl rfl (c_T_countPending l D cI cZ base ad fz x1 h hp.1) (by decide) ⟨Nat.le_refl _, Nat.le_refl _⟩ rfl rfl (Nat.le_of_ble_eq_true rfl) d_V_demote_40 (fun v h' H locs q hw => ?_)
        obtain ⟨rfl, rfl⟩ := q
        have hp := hp.2
        refine lv_if_le (tgt := 49) X.1 X.2.1 d_V_demote_43 (by decide) (fun g => ?_) (fun g => ?_)
        · rw [if_pos g] at hρ
          have hp := hp.1 g
          refine lv_aload_n X.1 X.2.1 d_V_demote_49 rfl (hl.at 2 rfl) ?_
          refine lv_iconst (v := (0 : Int32)) X.1 X.2.1 d_V_demote_50 (by decide) ?_
          refine r_put X K hw fp_V_50 (shp_N (isN_V_nodeOf fz x1 h)) rfl (by decide) (by decide) d_V_demote_51 (fun H locs hw => ?_)
          refine lv_iconst (v := (0 : Int32)) X.1 X.2.1 d_V_demote_54 (by decide) ?_
          exact r_iret X hr hk hw ⟨congrArg (fun z => some (Value.int z.1)) hρ, (congrArg Prod.snd hρ).symm⟩ d_V_demote_55
        · rw [if_neg g] at hρ
          have hp := hp.2 g
          refine lv_bipush (v := (-5 : Int32)) X.1 X.2.1 d_V_demote_46 (by decide) ?_
          exact r_iret X hr hk hw ⟨congrArg (fun z => some (Value.int z.1)) hρ, (congrArg Prod.snd hρ).symm⟩ d_V_demote_48
      · rw [if_pos g] at hρ
        have hp := hp.1 g
        refine lv_bipush (v := (-3 : Int32)) X.1 X.2.1 d_V_demote_32 (by decide) ?_
        exact r_iret X hr hk hw ⟨congrArg (fun z => some (Value.int z.1)) hρ, (congrArg Prod.snd hρ).symm⟩ d_V_demote_34
    · rw [if_pos g] at hρ
      have hp := hp.1 g
      refine lv_bipush (v := (-2 : Int32)) X.1 X.2.1 d_V_demote_22 (by decide) ?_
      exact r_iret X hr hk hw ⟨congrArg (fun z => some (Value.int z.1)) hρ, (congrArg Prod.snd hρ).symm⟩ d_V_demote_24
  · rw [if_pos g] at hρ
    have hp := hp.1 g
    refine lv_iconst (v := (-1 : Int32)) X.1 X.2.1 d_V_demote_7 (by decide) ?_
    exact r_iret X hr hk hw ⟨congrArg (fun z => some (Value.int z.1)) hρ, (congrArg Prod.snd hρ).symm⟩ d_V_demote_8
set_option maxRecDepth 100000 in
theorem c_V_demote (l : Launch) (D : va_G) (cI cZ : ClassId) (base : Nat) (ad : Nat → Nat) (fz : Nat) (x1 : Int32) (h : HH) (hp : P_V_demote fz x1 h) : Ct l D cI cZ base ad y_V_demote b_V_demote 3 (some .int) 2 45 [.ref (ad 0), .int x1] h (pIH (B_V_demote fz x1 h)) := by
  refine Ct.of (by decide) (Nat.le_of_ble_eq_true rfl) (cat_ok rfl) ?_
  intro p e s m args below meth c ls X K hr hk hl hw
  exact w_V_demote fz x1 h _ rfl hp X K hr hk hl hw
set_option maxHeartbeats 4000000 in
set_option maxRecDepth 100000 in
theorem w_V_discard_74 (fz : Nat) (x1 : Int32) (h : HH) (ρ : Int32 × HH) (hρ : B_V_discard_74 fz x1 h = ρ) (hp : P_V_discard_74 fz x1 h) (X : CallFix p m c b_V_discard 3 s args TB R_V) (K : KK D cI cZ s) (hr : meth.sig.returnType = (some .boolean)) (hk : meth.locks = false) {ls : Array Slot} {H : Heap} {locs : List Loc} (hl : Lc ls 3 [some (.ref (ad 0)), some (.int x1), none]) (hw : Hw D cI cZ base ad s shape h H locs) : W p l e (rmD 1 24) s m args below meth c H locs 0 0 (MQ below (Qw D cI cZ base ad (pIH ρ)) args s 0 0 (fun q => base ≤ q)) (F0 m 74 ls []) := by
  unfold B_V_discard_74 at hρ
  unfold P_V_discard_74 at hp
  refine lv_aload_n X.1 X.2.1 d_V_discard_74 rfl (hl.at 0 rfl) ?_
  refine r_getr (j := 21) X K hw fg_V_24 rfl rfl d_V_discard_75 ?_
  refine lv_iload_n X.1 X.2.1 d_V_discard_78 rfl (hl.at 1 rfl) ?_
  refine lv_iconst (v := (3 : Int32)) X.1 X.2.1 d_V_discard_79 (by decide) ?_
  refine lv_iconst (v := (4 : Int32)) X.1 X.2.1 d_V_discard_80 (by decide) ?_
  refine r_callV (rest := []) X K hw hl.1 mf_V_185 rfl rfl rfl (c_T_changeFates l D cI cZ base ad fz x1 (3 : Int32) (4 : Int32) h hp.1) (by decide) ⟨Nat.le_refl _, Nat.le_refl _⟩ rfl rfl (Nat.le_of_ble_eq_true rfl) d_V_discard_81 (fun v h' H locs q hw => ?_)
  obtain ⟨rfl, rfl⟩ := q
  have hp := hp.2
  refine lv_iconst (v := (1 : Int32)) X.1 X.2.1 d_V_discard_84 (by decide) ?_
  exact r_zret X hr hk hw (by decide) ⟨congrArg (fun z => some (Value.int z.1)) hρ, (congrArg Prod.snd hρ).symm⟩ d_V_discard_85
set_option maxHeartbeats 4000000 in
set_option maxRecDepth 100000 in
theorem w_V_discard (fz : Nat) (x1 : Int32) (h : HH) (ρ : Int32 × HH) (hρ : B_V_discard fz x1 h = ρ) (hp : P_V_discard fz x1 h) (X : CallFix p m c b_V_discard 3 s args TB R_V) (K : KK D cI cZ s) (hr : meth.sig.returnType = (some .boolean)) (hk : meth.locks = false) {ls : Array Slot} {H : Heap} {locs : List Loc} (hl : Lc ls 3 [some (.ref (ad 0)), some (.int x1), none]) (hw : Hw D cI cZ base ad s shape h H locs) : W p l e (rmD 1 24) s m args below meth c H locs 0 0 (MQ below (Qw D cI cZ base ad (pIH ρ)) args s 0 0 (fun q => base ≤ q)) (F0 m 0 ls []) := by
  unfold B_V_discard at hρ
  unfold P_V_discard at hp
  refine lv_iload_n X.1 X.2.1 d_V_discard_0 rfl (hl.at 1 rfl) ?_
  refine r_callS (rest := []) X K hw hl.1 mf_V_36 (c_V_isNode l D cI cZ base ad fz x1 h hp.1) (by decide) ⟨Nat.le_refl _, Nat.le_refl _⟩ rfl rfl (Nat.le_of_ble_eq_true rfl) d_V_discard_1 (fun v h' H locs q hw => ?_)
  obtain ⟨rfl, rfl⟩ := q
  have hp := hp.2
  refine lv_if_eq (tgt := 14) X.1 X.2.1 d_V_discard_4 (by decide) (fun g => ?_) (fun g => ?_)
  · rw [if_pos g] at hρ
    have hp := hp.1 g
    refine lv_iconst (v := (0 : Int32)) X.1 X.2.1 d_V_discard_14 (by decide) ?_
    exact r_zret X hr hk hw (by decide) ⟨congrArg (fun z => some (Value.int z.1)) hρ, (congrArg Prod.snd hρ).symm⟩ d_V_discard_15
  · rw [if_neg g] at hρ
    have hp := hp.2 g
    refine lv_aload_n X.1 X.2.1 d_V_discard_7 rfl (hl.at 0 rfl) ?_
    refine r_geti X K hw fg_V_28 rfl rfl d_V_discard_8 ?_
    refine lv_if_eq (tgt := 16) X.1 X.2.1 d_V_discard_11 (by decide) (fun g => ?_) (fun g => ?_)
    · rw [if_pos g] at hρ
      have hp := hp.1 g
      refine lv_aload_n X.1 X.2.1 d_V_discard_16 rfl (hl.at 0 rfl) ?_
      refine lv_iload_n X.1 X.2.1 d_V_discard_17 rfl (hl.at 1 rfl) ?_
      refine r_callV (rest := []) X K hw hl.1 mf_V_43 rfl rfl rfl (c_V_nodeOf l D cI cZ base ad fz x1 h hp.1) (by decide) ⟨Nat.le_refl _, Nat.le_refl _⟩ rfl rfl (Nat.le_of_ble_eq_true rfl) d_V_discard_18 (fun v h' H locs q hw => ?_)
      obtain ⟨rfl, rfl⟩ := q
      have hp := hp.2
      refine r_astore_n X hl d_V_discard_21 rfl (by decide) (fun ls hl => ?_)
      have hl : Lc ls 3 [some (.ref (ad 0)), some (.int x1), some (.ref (ad (B_V_nodeOf fz x1 h)))] := hl
      refine lv_aload_n X.1 X.2.1 d_V_discard_22 rfl (hl.at 2 rfl) ?_
      refine r_geti X K hw fg_V_47 (shp_N (isN_V_nodeOf fz x1 h)) rfl d_V_discard_23 ?_
      refine lv_if_eq (tgt := 47) X.1 X.2.1 d_V_discard_26 (by decide) (fun g => ?_) (fun g => ?_)
      · rw [if_pos g] at hρ
        have hp := hp.1 g
        refine lv_iconst (v := (0 : Int32)) X.1 X.2.1 d_V_discard_47 (by decide) ?_
        exact r_zret X hr hk hw (by decide) ⟨congrArg (fun z => some (Value.int z.1)) hρ, (congrArg Prod.snd hρ).symm⟩ d_V_discard_48
      · rw [if_neg g] at hρ
        have hp := hp.2 g
        refine lv_aload_n X.1 X.2.1 d_V_discard_29 rfl (hl.at 2 rfl) ?_
        refine r_geti X K hw fg_V_50 (shp_N (isN_V_nodeOf fz x1 h)) rfl d_V_discard_30 ?_
        refine lv_if_ne (tgt := 47) X.1 X.2.1 d_V_discard_33 (by decide) (fun g => ?_) (fun g => ?_)
        · rw [if_neg g] at hρ
          have hp := hp.2 g
          refine lv_iconst (v := (0 : Int32)) X.1 X.2.1 d_V_discard_47 (by decide) ?_
          exact r_zret X hr hk hw (by decide) ⟨congrArg (fun z => some (Value.int z.1)) hρ, (congrArg Prod.snd hρ).symm⟩ d_V_discard_48
        · rw [if_pos g] at hρ
          have hp := hp.1 g
          refine lv_aload_n X.1 X.2.1 d_V_discard_36 rfl (hl.at 0 rfl) ?_
          refine lv_iload_n X.1 X.2.1 d_V_discard_37 rfl (hl.at 1 rfl) ?_
          refine r_callV (rest := []) X K hw hl.1 mf_V_126 rfl rfl rfl (c_V_peerOf l D cI cZ base ad fz x1 h hp.1) (by decide) ⟨Nat.le_refl _, Nat.le_refl _⟩ rfl rfl (Nat.le_of_ble_eq_true rfl) d_V_discard_38 (fun v h' H locs q hw => ?_)
          obtain ⟨rfl, rfl⟩ := q
          have hp := hp.2
          refine r_geti X K hw fg_V_194 (shp_N (isN_V_peerOf fz x1 h)) rfl d_V_discard_41 ?_
          refine lv_if_eq (tgt := 49) X.1 X.2.1 d_V_discard_44 (by decide) (fun g => ?_) (fun g => ?_)
          · rw [if_pos g] at hρ
            have hp := hp.1 g
            refine lv_aload_n X.1 X.2.1 d_V_discard_49 rfl (hl.at 2 rfl) ?_
            refine lv_iconst (v := (1 : Int32)) X.1 X.2.1 d_V_discard_50 (by decide) ?_
            refine r_put X K hw fp_V_194 (shp_N (isN_V_nodeOf fz x1 h)) rfl (by decide) (by decide) d_V_discard_51 (fun H locs hw => ?_)
            refine lv_aload_n X.1 X.2.1 d_V_discard_54 rfl (hl.at 2 rfl) ?_
            refine lv_iconst (v := (0 : Int32)) X.1 X.2.1 d_V_discard_55 (by decide) ?_
            refine r_put X K hw fp_V_188 (shp_N (isN_V_nodeOf fz x1 h)) rfl (by decide) (by decide) d_V_discard_56 (fun H locs hw => ?_)
            refine lv_aload_n X.1 X.2.1 d_V_discard_59 rfl (hl.at 2 rfl) ?_
            refine lv_iconst (v := (0 : Int32)) X.1 X.2.1 d_V_discard_60 (by decide) ?_
            refine r_put X K hw fp_V_197 (shp_N (isN_V_nodeOf fz x1 h)) rfl rfl rfl d_V_discard_61 (fun H locs hw => ?_)
            refine lv_aload_n X.1 X.2.1 d_V_discard_64 rfl (hl.at 2 rfl) ?_
            refine lv_iconst (v := (0 : Int32)) X.1 X.2.1 d_V_discard_65 (by decide) ?_
            refine r_put X K hw fp_V_200 (shp_N (isN_V_nodeOf fz x1 h)) rfl rfl rfl d_V_discard_66 (fun H locs hw => ?_)
            refine lv_aload_n X.1 X.2.1 d_V_discard_69 rfl (hl.at 2 rfl) ?_
            refine lv_iconst (v := (0 : Int32)) X.1 X.2.1 d_V_discard_70 (by decide) ?_
            refine r_put X K hw fp_V_166 (shp_N (isN_V_nodeOf fz x1 h)) rfl rfl rfl d_V_discard_71 (fun H locs hw => ?_)
            have hl : Lc ls 3 [some (.ref (ad 0)), some (.int x1), none] := hl.mask [true, true, false]
            exact w_V_discard_74 fz x1 (u2 (u2 (u2 (u2 (u2 h (B_V_nodeOf fz x1 h) 8 (1 : Int32)) (B_V_nodeOf fz x1 h) 9 (0 : Int32)) (B_V_nodeOf fz x1 h) 6 (0 : Int32)) (B_V_nodeOf fz x1 h) 7 (0 : Int32)) (B_V_nodeOf fz x1 h) 5 (0 : Int32)) ρ hρ hp X K hr hk hl hw
          · rw [if_neg g] at hρ
            have hp := hp.2 g
            refine lv_iconst (v := (0 : Int32)) X.1 X.2.1 d_V_discard_47 (by decide) ?_
            exact r_zret X hr hk hw (by decide) ⟨congrArg (fun z => some (Value.int z.1)) hρ, (congrArg Prod.snd hρ).symm⟩ d_V_discard_48
    · rw [if_neg g] at hρ
      have hp := hp.2 g
      refine lv_iconst (v := (0 : Int32)) X.1 X.2.1 d_V_discard_14 (by decide) ?_
      exact r_zret X hr hk hw (by decide) ⟨congrArg (fun z => some (Value.int z.1)) hρ, (congrArg Prod.snd hρ).symm⟩ d_V_discard_15
set_option maxRecDepth 100000 in
theorem c_V_discard (l : Launch) (D : va_G) (cI cZ : ClassId) (base : Nat) (ad : Nat → Nat) (fz : Nat) (x1 : Int32) (h : HH) (hp : P_V_discard fz x1 h) : Ct l D cI cZ base ad y_V_discard b_V_discard 3 (some .boolean) 1 24 [.ref (ad 0), .int x1] h (pIH (B_V_discard fz x1 h)) := by
  refine Ct.of (by decide) (Nat.le_of_ble_eq_true rfl) (cat_ok rfl) ?_
  intro p e s m args below meth c ls X K hr hk hl hw
  exact w_V_discard fz x1 h _ rfl hp X K hr hk hl hw
set_option maxHeartbeats 4000000 in
set_option maxRecDepth 100000 in
theorem w_V_disk (fz : Nat) (x1 : Int32) (x2 : Int32) (h : HH) (ρ : Int32) (hρ : B_V_disk fz x1 x2 h = ρ) (hp : P_V_disk fz x1 x2 h) (X : CallFix p m c b_V_disk 3 s args TB R_V) (K : KK D cI cZ s) (hr : meth.sig.returnType = (some .int)) (hk : meth.locks = false) {ls : Array Slot} {H : Heap} {locs : List Loc} (hl : Lc ls 3 [some (.ref (ad 0)), some (.int x1), some (.int x2)]) (hw : Hw D cI cZ base ad s shape h H locs) : W p l e (rmD 1 21) s m args below meth c H locs 0 0 (MQ below (Qw D cI cZ base ad (pI h ρ)) args s 0 0 (fun q => base ≤ q)) (F0 m 0 ls []) := by
  unfold B_V_disk at hρ
  unfold P_V_disk at hp
  refine lv_iload_n X.1 X.2.1 d_V_disk_0 rfl (hl.at 1 rfl) ?_
  refine r_callS (rest := []) X K hw hl.1 mf_V_36 (c_V_isNode l D cI cZ base ad fz x1 h hp.1) (by decide) ⟨Nat.le_refl _, Nat.le_refl _⟩ rfl rfl (Nat.le_of_ble_eq_true rfl) d_V_disk_1 (fun v h' H locs q hw => ?_)
  obtain ⟨rfl, rfl⟩ := q
  have hp := hp.2
  refine lv_if_eq (tgt := 27) X.1 X.2.1 d_V_disk_4 (by decide) (fun g => ?_) (fun g => ?_)
  · rw [if_pos g] at hρ
    have hp := hp.1 g
    refine lv_iconst (v := (0 : Int32)) X.1 X.2.1 d_V_disk_27 (by decide) ?_
    exact r_iret X hr hk hw ⟨congrArg (fun z => some (Value.int z)) hρ, rfl⟩ d_V_disk_28
  · rw [if_neg g] at hρ
    have hp := hp.2 g
    refine lv_iload_n X.1 X.2.1 d_V_disk_7 rfl (hl.at 2 rfl) ?_
    refine r_callS (rest := []) X K hw hl.1 mf_V_40 (c_V_isBlock l D cI cZ base ad fz x2 h hp.1) (by decide) ⟨Nat.le_refl _, Nat.le_refl _⟩ rfl rfl (Nat.le_of_ble_eq_true rfl) d_V_disk_8 (fun v h' H locs q hw => ?_)
    obtain ⟨rfl, rfl⟩ := q
    have hp := hp.2
    refine lv_if_eq (tgt := 27) X.1 X.2.1 d_V_disk_11 (by decide) (fun g => ?_) (fun g => ?_)
    · rw [if_pos g] at hρ
      have hp := hp.1 g
      refine lv_iconst (v := (0 : Int32)) X.1 X.2.1 d_V_disk_27 (by decide) ?_
      exact r_iret X hr hk hw ⟨congrArg (fun z => some (Value.int z)) hρ, rfl⟩ d_V_disk_28
    · rw [if_neg g] at hρ
      have hp := hp.2 g
      refine lv_aload_n X.1 X.2.1 d_V_disk_14 rfl (hl.at 0 rfl) ?_
      refine lv_iload_n X.1 X.2.1 d_V_disk_15 rfl (hl.at 1 rfl) ?_
      refine r_callV (rest := []) X K hw hl.1 mf_V_43 rfl rfl rfl (c_V_nodeOf l D cI cZ base ad fz x1 h hp.1) (by decide) ⟨Nat.le_refl _, Nat.le_refl _⟩ rfl rfl (Nat.le_of_ble_eq_true rfl) d_V_disk_16 (fun v h' H locs q hw => ?_)
      obtain ⟨rfl, rfl⟩ := q
      have hp := hp.2
      refine r_getr (j := ((B_V_nodeOf fz x1 h) + 1)) X K hw fg_V_78 (shp_N (isN_V_nodeOf fz x1 h)) rfl d_V_disk_19 ?_
      refine lv_iload_n X.1 X.2.1 d_V_disk_22 rfl (hl.at 2 rfl) ?_
      refine r_ald X K hw (sha_1 (isN_V_nodeOf fz x1 h)) hp.1 d_V_disk_23 ?_
      have hp := hp.2
      refine lv_goto (tgt := 28) X.1 X.2.1 d_V_disk_24 (by decide) ?_
      exact r_iret X hr hk hw ⟨congrArg (fun z => some (Value.int z)) hρ, rfl⟩ d_V_disk_28
set_option maxRecDepth 100000 in
theorem c_V_disk (l : Launch) (D : va_G) (cI cZ : ClassId) (base : Nat) (ad : Nat → Nat) (fz : Nat) (x1 : Int32) (x2 : Int32) (h : HH) (hp : P_V_disk fz x1 x2 h) : Ct l D cI cZ base ad y_V_disk b_V_disk 3 (some .int) 1 21 [.ref (ad 0), .int x1, .int x2] h (pI h (B_V_disk fz x1 x2 h)) := by
  refine Ct.of (by decide) (Nat.le_of_ble_eq_true rfl) (cat_ok rfl) ?_
  intro p e s m args below meth c ls X K hr hk hl hw
  exact w_V_disk fz x1 x2 h _ rfl hp X K hr hk hl hw
set_option maxHeartbeats 4000000 in
set_option maxRecDepth 100000 in
theorem w_T_has (fz : Nat) (x1 : Int32) (h : HH) (ρ : Int32) (hρ : B_T_has fz x1 h = ρ) (hp : P_T_has fz x1 h) (X : CallFix p m c b_T_has 2 s args TB R_T) (K : KK D cI cZ s) (hr : meth.sig.returnType = (some .boolean)) (hk : meth.locks = false) {ls : Array Slot} {H : Heap} {locs : List Loc} (hl : Lc ls 2 [some (.ref (ad 21)), some (.int x1)]) (hw : Hw D cI cZ base ad s shape h H locs) : W p l e (rmD 0 0) s m args below meth c H locs 0 0 (MQ below (Qw D cI cZ base ad (pI h ρ)) args s 0 0 (fun q => base ≤ q)) (F0 m 0 ls []) := by
  unfold B_T_has at hρ
  unfold P_T_has at hp
  refine lv_iload_n X.1 X.2.1 d_T_has_0 rfl (hl.at 1 rfl) ?_
  refine lv_iconst (v := (1 : Int32)) X.1 X.2.1 d_T_has_1 (by decide) ?_
  refine lv_icmp_lt (tgt := 17) X.1 X.2.1 d_T_has_2 (by decide) (fun g => ?_) (fun g => ?_)
  · rw [if_pos g] at hρ
    have hp := hp.1 g
    refine lv_iconst (v := (0 : Int32)) X.1 X.2.1 d_T_has_17 (by decide) ?_
    exact r_zret X hr hk hw (by decide) ⟨congrArg (fun z => some (Value.int z)) hρ, rfl⟩ d_T_has_18
  · rw [if_neg g] at hρ
    have hp := hp.2 g
    refine lv_iload_n X.1 X.2.1 d_T_has_5 rfl (hl.at 1 rfl) ?_
    refine lv_aload_n X.1 X.2.1 d_T_has_6 rfl (hl.at 0 rfl) ?_
    refine r_geti X K hw fg_T_27 rfl rfl d_T_has_7 ?_
    refine lv_icmp_gt (tgt := 17) X.1 X.2.1 d_T_has_10 (by decide) (fun g => ?_) (fun g => ?_)
    · rw [if_pos g] at hρ
      have hp := hp.1 g
      refine lv_iconst (v := (0 : Int32)) X.1 X.2.1 d_T_has_17 (by decide) ?_
      exact r_zret X hr hk hw (by decide) ⟨congrArg (fun z => some (Value.int z)) hρ, rfl⟩ d_T_has_18
    · rw [if_neg g] at hρ
      have hp := hp.2 g
      refine lv_iconst (v := (1 : Int32)) X.1 X.2.1 d_T_has_13 (by decide) ?_
      refine lv_goto (tgt := 18) X.1 X.2.1 d_T_has_14 (by decide) ?_
      exact r_zret X hr hk hw (by decide) ⟨congrArg (fun z => some (Value.int z)) hρ, rfl⟩ d_T_has_18
set_option maxRecDepth 100000 in
theorem c_T_has (l : Launch) (D : va_G) (cI cZ : ClassId) (base : Nat) (ad : Nat → Nat) (fz : Nat) (x1 : Int32) (h : HH) (hp : P_T_has fz x1 h) : Ct l D cI cZ base ad y_T_has b_T_has 2 (some .boolean) 0 0 [.ref (ad 21), .int x1] h (pI h (B_T_has fz x1 h)) := by
  refine Ct.of (by decide) (Nat.le_of_ble_eq_true rfl) (cat_ok rfl) ?_
  intro p e s m args below meth c ls X K hr hk hl hw
  exact w_T_has fz x1 h _ rfl hp X K hr hk hl hw
set_option maxHeartbeats 4000000 in
set_option maxRecDepth 100000 in
theorem w_V_fate (fz : Nat) (x1 : Int32) (h : HH) (ρ : Int32) (hρ : B_V_fate fz x1 h = ρ) (hp : P_V_fate fz x1 h) (X : CallFix p m c b_V_fate 2 s args TB R_V) (K : KK D cI cZ s) (hr : meth.sig.returnType = (some .int)) (hk : meth.locks = false) {ls : Array Slot} {H : Heap} {locs : List Loc} (hl : Lc ls 2 [some (.ref (ad 0)), some (.int x1)]) (hw : Hw D cI cZ base ad s shape h H locs) : W p l e (rmD 1 21) s m args below meth c H locs 0 0 (MQ below (Qw D cI cZ base ad (pI h ρ)) args s 0 0 (fun q => base ≤ q)) (F0 m 0 ls []) := by
  unfold B_V_fate at hρ
  unfold P_V_fate at hp
  refine lv_aload_n X.1 X.2.1 d_V_fate_0 rfl (hl.at 0 rfl) ?_
  refine r_getr (j := 21) X K hw fg_V_24 rfl rfl d_V_fate_1 ?_
  refine lv_iload_n X.1 X.2.1 d_V_fate_4 rfl (hl.at 1 rfl) ?_
  refine r_callV (rest := []) X K hw hl.1 mf_V_203 rfl rfl rfl (c_T_has l D cI cZ base ad fz x1 h hp.1) (by decide) ⟨Nat.le_refl _, Nat.le_refl _⟩ rfl rfl (Nat.le_of_ble_eq_true rfl) d_V_fate_5 (fun v h' H locs q hw => ?_)
  obtain ⟨rfl, rfl⟩ := q
  have hp := hp.2
  refine lv_if_eq (tgt := 23) X.1 X.2.1 d_V_fate_8 (by decide) (fun g => ?_) (fun g => ?_)
  · rw [if_pos g] at hρ
    have hp := hp.1 g
    refine lv_iconst (v := (0 : Int32)) X.1 X.2.1 d_V_fate_23 (by decide) ?_
    exact r_iret X hr hk hw ⟨congrArg (fun z => some (Value.int z)) hρ, rfl⟩ d_V_fate_24
  · rw [if_neg g] at hρ
    have hp := hp.2 g
    refine lv_aload_n X.1 X.2.1 d_V_fate_11 rfl (hl.at 0 rfl) ?_
    refine r_getr (j := 21) X K hw fg_V_24 rfl rfl d_V_fate_12 ?_
    refine r_getr (j := 26) X K hw fg_V_206 rfl rfl d_V_fate_15 ?_
    refine lv_iload_n X.1 X.2.1 d_V_fate_18 rfl (hl.at 1 rfl) ?_
    refine r_ald X K hw rfl hp.1 d_V_fate_19 ?_
    have hp := hp.2
    refine lv_goto (tgt := 24) X.1 X.2.1 d_V_fate_20 (by decide) ?_
    exact r_iret X hr hk hw ⟨congrArg (fun z => some (Value.int z)) hρ, rfl⟩ d_V_fate_24
set_option maxRecDepth 100000 in
theorem c_V_fate (l : Launch) (D : va_G) (cI cZ : ClassId) (base : Nat) (ad : Nat → Nat) (fz : Nat) (x1 : Int32) (h : HH) (hp : P_V_fate fz x1 h) : Ct l D cI cZ base ad y_V_fate b_V_fate 2 (some .int) 1 21 [.ref (ad 0), .int x1] h (pI h (B_V_fate fz x1 h)) := by
  refine Ct.of (by decide) (Nat.le_of_ble_eq_true rfl) (cat_ok rfl) ?_
  intro p e s m args below meth c ls X K hr hk hl hw
  exact w_V_fate fz x1 h _ rfl hp X K hr hk hl hw
set_option maxHeartbeats 4000000 in
set_option maxRecDepth 100000 in
theorem w_V_state_120 (fz : Nat) (y0 : Int32) (y1 : Int32) (h : HH) (ρ : Int32) (hρ : B_V_state_120 fz y0 y1 h = ρ) (hp : P_V_state_120 fz y0 y1 h) (X : CallFix p m c b_V_state 4 s args TB R_V) (K : KK D cI cZ s) (hr : meth.sig.returnType = (some .int)) (hk : meth.locks = false) {ls : Array Slot} {H : Heap} {locs : List Loc} (hl : Lc ls 4 [none, none, none, none]) (hw : Hw D cI cZ base ad s shape h H locs) : W p l e (rmD 1 21) s m args below meth c H locs 0 0 (MQ below (Qw D cI cZ base ad (pI h ρ)) args s 0 0 (fun q => base ≤ q)) (F0 m 120 ls [.int y1, .int y0]) := by
  unfold B_V_state_120 at hρ
  unfold P_V_state_120 at hp
  refine lv_iadd X.1 X.2.1 d_V_state_120 ?_
  refine r_istore_n X hl d_V_state_121 rfl (by decide) (fun ls hl => ?_)
  have hl : Lc ls 4 [none, none, none, some (.int (y0 + y1))] := hl
  refine lv_iload_n X.1 X.2.1 d_V_state_122 rfl (hl.at 3 rfl) ?_
  exact r_iret X hr hk hw ⟨congrArg (fun z => some (Value.int z)) hρ, rfl⟩ d_V_state_123
set_option maxHeartbeats 4000000 in
set_option maxRecDepth 100000 in
theorem w_V_state_104 (fz : Nat) (i2 : Nat) (n2 : isN i2) (y0 : Int32) (y1 : Int32) (h : HH) (ρ : Int32) (hρ : B_V_state_104 fz i2 y0 y1 h = ρ) (hp : P_V_state_104 fz i2 y0 y1 h) (X : CallFix p m c b_V_state 4 s args TB R_V) (K : KK D cI cZ s) (hr : meth.sig.returnType = (some .int)) (hk : meth.locks = false) {ls : Array Slot} {H : Heap} {locs : List Loc} (hl : Lc ls 4 [none, none, some (.ref (ad i2)), none]) (hw : Hw D cI cZ base ad s shape h H locs) : W p l e (rmD 1 21) s m args below meth c H locs 0 0 (MQ below (Qw D cI cZ base ad (pI h ρ)) args s 0 0 (fun q => base ≤ q)) (F0 m 104 ls [.int y1, .int y0]) := by
  unfold B_V_state_104 at hρ
  unfold P_V_state_104 at hp
  refine lv_iadd X.1 X.2.1 d_V_state_104 ?_
  refine r_istore_n X hl d_V_state_105 rfl (by decide) (fun ls hl => ?_)
  have hl : Lc ls 4 [none, none, some (.ref (ad i2)), some (.int (y0 + y1))] := hl
  refine lv_iload_n X.1 X.2.1 d_V_state_106 rfl (hl.at 3 rfl) ?_
  refine lv_aload_n X.1 X.2.1 d_V_state_107 rfl (hl.at 2 rfl) ?_
  refine r_geti X K hw fg_V_209 (shp_N n2) rfl d_V_state_108 ?_
  refine lv_if_eq (tgt := 119) X.1 X.2.1 d_V_state_111 (by decide) (fun g => ?_) (fun g => ?_)
  · rw [if_pos g] at hρ
    have hp := hp.1 g
    refine lv_iconst (v := (0 : Int32)) X.1 X.2.1 d_V_state_119 (by decide) ?_
    have hl : Lc ls 4 [none, none, none, none] := hl.mask [false, false, false, false]
    exact w_V_state_120 fz (y0 + y1) (0 : Int32) h ρ hρ hp X K hr hk hl hw
  · rw [if_neg g] at hρ
    have hp := hp.2 g
    refine lv_bipush (v := (64 : Int32)) X.1 X.2.1 d_V_state_114 (by decide) ?_
    refine lv_goto (tgt := 120) X.1 X.2.1 d_V_state_116 (by decide) ?_
    have hl : Lc ls 4 [none, none, none, none] := hl.mask [false, false, false, false]
    exact w_V_state_120 fz (y0 + y1) (64 : Int32) h ρ hρ hp X K hr hk hl hw
set_option maxHeartbeats 4000000 in
set_option maxRecDepth 100000 in
theorem w_V_state_88 (fz : Nat) (i2 : Nat) (n2 : isN i2) (y0 : Int32) (y1 : Int32) (h : HH) (ρ : Int32) (hρ : B_V_state_88 fz i2 y0 y1 h = ρ) (hp : P_V_state_88 fz i2 y0 y1 h) (X : CallFix p m c b_V_state 4 s args TB R_V) (K : KK D cI cZ s) (hr : meth.sig.returnType = (some .int)) (hk : meth.locks = false) {ls : Array Slot} {H : Heap} {locs : List Loc} (hl : Lc ls 4 [none, none, some (.ref (ad i2)), none]) (hw : Hw D cI cZ base ad s shape h H locs) : W p l e (rmD 1 21) s m args below meth c H locs 0 0 (MQ below (Qw D cI cZ base ad (pI h ρ)) args s 0 0 (fun q => base ≤ q)) (F0 m 88 ls [.int y1, .int y0]) := by
  unfold B_V_state_88 at hρ
  unfold P_V_state_88 at hp
  refine lv_iadd X.1 X.2.1 d_V_state_88 ?_
  refine r_istore_n X hl d_V_state_89 rfl (by decide) (fun ls hl => ?_)
  have hl : Lc ls 4 [none, none, some (.ref (ad i2)), some (.int (y0 + y1))] := hl
  refine lv_iload_n X.1 X.2.1 d_V_state_90 rfl (hl.at 3 rfl) ?_
  refine lv_aload_n X.1 X.2.1 d_V_state_91 rfl (hl.at 2 rfl) ?_
  refine r_geti X K hw fg_V_155 (shp_N n2) rfl d_V_state_92 ?_
  refine lv_if_eq (tgt := 103) X.1 X.2.1 d_V_state_95 (by decide) (fun g => ?_) (fun g => ?_)
  · rw [if_pos g] at hρ
    have hp := hp.1 g
    refine lv_iconst (v := (0 : Int32)) X.1 X.2.1 d_V_state_103 (by decide) ?_
    have hl : Lc ls 4 [none, none, some (.ref (ad i2)), none] := hl.mask [false, false, true, false]
    exact w_V_state_104 fz i2 n2 (y0 + y1) (0 : Int32) h ρ hρ hp X K hr hk hl hw
  · rw [if_neg g] at hρ
    have hp := hp.2 g
    refine lv_bipush (v := (32 : Int32)) X.1 X.2.1 d_V_state_98 (by decide) ?_
    refine lv_goto (tgt := 104) X.1 X.2.1 d_V_state_100 (by decide) ?_
    have hl : Lc ls 4 [none, none, some (.ref (ad i2)), none] := hl.mask [false, false, true, false]
    exact w_V_state_104 fz i2 n2 (y0 + y1) (32 : Int32) h ρ hρ hp X K hr hk hl hw
set_option maxHeartbeats 4000000 in
set_option maxRecDepth 100000 in
theorem w_V_state_72 (fz : Nat) (i2 : Nat) (n2 : isN i2) (y0 : Int32) (y1 : Int32) (h : HH) (ρ : Int32) (hρ : B_V_state_72 fz i2 y0 y1 h = ρ) (hp : P_V_state_72 fz i2 y0 y1 h) (X : CallFix p m c b_V_state 4 s args TB R_V) (K : KK D cI cZ s) (hr : meth.sig.returnType = (some .int)) (hk : meth.locks = false) {ls : Array Slot} {H : Heap} {locs : List Loc} (hl : Lc ls 4 [some (.ref (ad 0)), none, some (.ref (ad i2)), none]) (hw : Hw D cI cZ base ad s shape h H locs) : W p l e (rmD 1 21) s m args below meth c H locs 0 0 (MQ below (Qw D cI cZ base ad (pI h ρ)) args s 0 0 (fun q => base ≤ q)) (F0 m 72 ls [.int y1, .int y0]) := by
  unfold B_V_state_72 at hρ
  unfold P_V_state_72 at hp
  refine lv_iadd X.1 X.2.1 d_V_state_72 ?_
  refine r_istore_n X hl d_V_state_73 rfl (by decide) (fun ls hl => ?_)
  have hl : Lc ls 4 [some (.ref (ad 0)), none, some (.ref (ad i2)), some (.int (y0 + y1))] := hl
  refine lv_iload_n X.1 X.2.1 d_V_state_74 rfl (hl.at 3 rfl) ?_
  refine lv_aload_n X.1 X.2.1 d_V_state_75 rfl (hl.at 0 rfl) ?_
  refine r_geti X K hw fg_V_28 rfl rfl d_V_state_76 ?_
  refine lv_if_eq (tgt := 87) X.1 X.2.1 d_V_state_79 (by decide) (fun g => ?_) (fun g => ?_)
  · rw [if_pos g] at hρ
    have hp := hp.1 g
    refine lv_iconst (v := (0 : Int32)) X.1 X.2.1 d_V_state_87 (by decide) ?_
    have hl : Lc ls 4 [none, none, some (.ref (ad i2)), none] := hl.mask [false, false, true, false]
    exact w_V_state_88 fz i2 n2 (y0 + y1) (0 : Int32) h ρ hρ hp X K hr hk hl hw
  · rw [if_neg g] at hρ
    have hp := hp.2 g
    refine lv_bipush (v := (16 : Int32)) X.1 X.2.1 d_V_state_82 (by decide) ?_
    refine lv_goto (tgt := 88) X.1 X.2.1 d_V_state_84 (by decide) ?_
    have hl : Lc ls 4 [none, none, some (.ref (ad i2)), none] := hl.mask [false, false, true, false]
    exact w_V_state_88 fz i2 n2 (y0 + y1) (16 : Int32) h ρ hρ hp X K hr hk hl hw
set_option maxHeartbeats 4000000 in
set_option maxRecDepth 100000 in
theorem w_V_state_56 (fz : Nat) (i2 : Nat) (n2 : isN i2) (y0 : Int32) (y1 : Int32) (h : HH) (ρ : Int32) (hρ : B_V_state_56 fz i2 y0 y1 h = ρ) (hp : P_V_state_56 fz i2 y0 y1 h) (X : CallFix p m c b_V_state 4 s args TB R_V) (K : KK D cI cZ s) (hr : meth.sig.returnType = (some .int)) (hk : meth.locks = false) {ls : Array Slot} {H : Heap} {locs : List Loc} (hl : Lc ls 4 [some (.ref (ad 0)), none, some (.ref (ad i2)), none]) (hw : Hw D cI cZ base ad s shape h H locs) : W p l e (rmD 1 21) s m args below meth c H locs 0 0 (MQ below (Qw D cI cZ base ad (pI h ρ)) args s 0 0 (fun q => base ≤ q)) (F0 m 56 ls [.int y1, .int y0]) := by
  unfold B_V_state_56 at hρ
  unfold P_V_state_56 at hp
  refine lv_iadd X.1 X.2.1 d_V_state_56 ?_
  refine r_istore_n X hl d_V_state_57 rfl (by decide) (fun ls hl => ?_)
  have hl : Lc ls 4 [some (.ref (ad 0)), none, some (.ref (ad i2)), some (.int (y0 + y1))] := hl
  refine lv_iload_n X.1 X.2.1 d_V_state_58 rfl (hl.at 3 rfl) ?_
  refine lv_aload_n X.1 X.2.1 d_V_state_59 rfl (hl.at 2 rfl) ?_
  refine r_geti X K hw fg_V_188 (shp_N n2) rfl d_V_state_60 ?_
  refine lv_if_eq (tgt := 71) X.1 X.2.1 d_V_state_63 (by decide) (fun g => ?_) (fun g => ?_)
  · rw [if_pos g] at hρ
    have hp := hp.1 g
    refine lv_iconst (v := (0 : Int32)) X.1 X.2.1 d_V_state_71 (by decide) ?_
    have hl : Lc ls 4 [some (.ref (ad 0)), none, some (.ref (ad i2)), none] := hl.mask [true, false, true, false]
    exact w_V_state_72 fz i2 n2 (y0 + y1) (0 : Int32) h ρ hρ hp X K hr hk hl hw
  · rw [if_neg g] at hρ
    have hp := hp.2 g
    refine lv_bipush (v := (8 : Int32)) X.1 X.2.1 d_V_state_66 (by decide) ?_
    refine lv_goto (tgt := 72) X.1 X.2.1 d_V_state_68 (by decide) ?_
    have hl : Lc ls 4 [some (.ref (ad 0)), none, some (.ref (ad i2)), none] := hl.mask [true, false, true, false]
    exact w_V_state_72 fz i2 n2 (y0 + y1) (8 : Int32) h ρ hρ hp X K hr hk hl hw
set_option maxHeartbeats 4000000 in
set_option maxRecDepth 100000 in
theorem w_V_state_41 (fz : Nat) (i2 : Nat) (n2 : isN i2) (y0 : Int32) (y1 : Int32) (h : HH) (ρ : Int32) (hρ : B_V_state_41 fz i2 y0 y1 h = ρ) (hp : P_V_state_41 fz i2 y0 y1 h) (X : CallFix p m c b_V_state 4 s args TB R_V) (K : KK D cI cZ s) (hr : meth.sig.returnType = (some .int)) (hk : meth.locks = false) {ls : Array Slot} {H : Heap} {locs : List Loc} (hl : Lc ls 4 [some (.ref (ad 0)), none, some (.ref (ad i2)), none]) (hw : Hw D cI cZ base ad s shape h H locs) : W p l e (rmD 1 21) s m args below meth c H locs 0 0 (MQ below (Qw D cI cZ base ad (pI h ρ)) args s 0 0 (fun q => base ≤ q)) (F0 m 41 ls [.int y1, .int y0]) := by
  unfold B_V_state_41 at hρ
  unfold P_V_state_41 at hp
  refine lv_iadd X.1 X.2.1 d_V_state_41 ?_
  refine r_istore_n X hl d_V_state_42 rfl (by decide) (fun ls hl => ?_)
  have hl : Lc ls 4 [some (.ref (ad 0)), none, some (.ref (ad i2)), some (.int (y0 + y1))] := hl
  refine lv_iload_n X.1 X.2.1 d_V_state_43 rfl (hl.at 3 rfl) ?_
  refine lv_aload_n X.1 X.2.1 d_V_state_44 rfl (hl.at 2 rfl) ?_
  refine r_geti X K hw fg_V_194 (shp_N n2) rfl d_V_state_45 ?_
  refine lv_if_eq (tgt := 55) X.1 X.2.1 d_V_state_48 (by decide) (fun g => ?_) (fun g => ?_)
  · rw [if_pos g] at hρ
    have hp := hp.1 g
    refine lv_iconst (v := (0 : Int32)) X.1 X.2.1 d_V_state_55 (by decide) ?_
    have hl : Lc ls 4 [some (.ref (ad 0)), none, some (.ref (ad i2)), none] := hl.mask [true, false, true, false]
    exact w_V_state_56 fz i2 n2 (y0 + y1) (0 : Int32) h ρ hρ hp X K hr hk hl hw
  · rw [if_neg g] at hρ
    have hp := hp.2 g
    refine lv_iconst (v := (4 : Int32)) X.1 X.2.1 d_V_state_51 (by decide) ?_
    refine lv_goto (tgt := 56) X.1 X.2.1 d_V_state_52 (by decide) ?_
    have hl : Lc ls 4 [some (.ref (ad 0)), none, some (.ref (ad i2)), none] := hl.mask [true, false, true, false]
    exact w_V_state_56 fz i2 n2 (y0 + y1) (4 : Int32) h ρ hρ hp X K hr hk hl hw
set_option maxHeartbeats 4000000 in
set_option maxRecDepth 100000 in
theorem w_V_state_27 (fz : Nat) (i2 : Nat) (n2 : isN i2) (y0 : Int32) (h : HH) (ρ : Int32) (hρ : B_V_state_27 fz i2 y0 h = ρ) (hp : P_V_state_27 fz i2 y0 h) (X : CallFix p m c b_V_state 4 s args TB R_V) (K : KK D cI cZ s) (hr : meth.sig.returnType = (some .int)) (hk : meth.locks = false) {ls : Array Slot} {H : Heap} {locs : List Loc} (hl : Lc ls 4 [some (.ref (ad 0)), none, some (.ref (ad i2)), none]) (hw : Hw D cI cZ base ad s shape h H locs) : W p l e (rmD 1 21) s m args below meth c H locs 0 0 (MQ below (Qw D cI cZ base ad (pI h ρ)) args s 0 0 (fun q => base ≤ q)) (F0 m 27 ls [.int y0]) := by
  unfold B_V_state_27 at hρ
  unfold P_V_state_27 at hp
  refine r_istore_n X hl d_V_state_27 rfl (by decide) (fun ls hl => ?_)
  have hl : Lc ls 4 [some (.ref (ad 0)), none, some (.ref (ad i2)), some (.int y0)] := hl
  refine lv_iload_n X.1 X.2.1 d_V_state_28 rfl (hl.at 3 rfl) ?_
  refine lv_aload_n X.1 X.2.1 d_V_state_29 rfl (hl.at 2 rfl) ?_
  refine r_geti X K hw fg_V_50 (shp_N n2) rfl d_V_state_30 ?_
  refine lv_if_eq (tgt := 40) X.1 X.2.1 d_V_state_33 (by decide) (fun g => ?_) (fun g => ?_)
  · rw [if_pos g] at hρ
    have hp := hp.1 g
    refine lv_iconst (v := (0 : Int32)) X.1 X.2.1 d_V_state_40 (by decide) ?_
    have hl : Lc ls 4 [some (.ref (ad 0)), none, some (.ref (ad i2)), none] := hl.mask [true, false, true, false]
    exact w_V_state_41 fz i2 n2 y0 (0 : Int32) h ρ hρ hp X K hr hk hl hw
  · rw [if_neg g] at hρ
    have hp := hp.2 g
    refine lv_iconst (v := (2 : Int32)) X.1 X.2.1 d_V_state_36 (by decide) ?_
    refine lv_goto (tgt := 41) X.1 X.2.1 d_V_state_37 (by decide) ?_
    have hl : Lc ls 4 [some (.ref (ad 0)), none, some (.ref (ad i2)), none] := hl.mask [true, false, true, false]
    exact w_V_state_41 fz i2 n2 y0 (2 : Int32) h ρ hρ hp X K hr hk hl hw
set_option maxHeartbeats 4000000 in
set_option maxRecDepth 100000 in
theorem w_V_state (fz : Nat) (x1 : Int32) (h : HH) (ρ : Int32) (hρ : B_V_state fz x1 h = ρ) (hp : P_V_state fz x1 h) (X : CallFix p m c b_V_state 4 s args TB R_V) (K : KK D cI cZ s) (hr : meth.sig.returnType = (some .int)) (hk : meth.locks = false) {ls : Array Slot} {H : Heap} {locs : List Loc} (hl : Lc ls 4 [some (.ref (ad 0)), some (.int x1), none, none]) (hw : Hw D cI cZ base ad s shape h H locs) : W p l e (rmD 1 21) s m args below meth c H locs 0 0 (MQ below (Qw D cI cZ base ad (pI h ρ)) args s 0 0 (fun q => base ≤ q)) (F0 m 0 ls []) := by
  unfold B_V_state at hρ
  unfold P_V_state at hp
  refine lv_iload_n X.1 X.2.1 d_V_state_0 rfl (hl.at 1 rfl) ?_
  refine r_callS (rest := []) X K hw hl.1 mf_V_36 (c_V_isNode l D cI cZ base ad fz x1 h hp.1) (by decide) ⟨Nat.le_refl _, Nat.le_refl _⟩ rfl rfl (Nat.le_of_ble_eq_true rfl) d_V_state_1 (fun v h' H locs q hw => ?_)
  obtain ⟨rfl, rfl⟩ := q
  have hp := hp.2
  refine lv_if_ne (tgt := 9) X.1 X.2.1 d_V_state_4 (by decide) (fun g => ?_) (fun g => ?_)
  · rw [if_neg g] at hρ
    have hp := hp.2 g
    refine lv_aload_n X.1 X.2.1 d_V_state_9 rfl (hl.at 0 rfl) ?_
    refine lv_iload_n X.1 X.2.1 d_V_state_10 rfl (hl.at 1 rfl) ?_
    refine r_callV (rest := []) X K hw hl.1 mf_V_43 rfl rfl rfl (c_V_nodeOf l D cI cZ base ad fz x1 h hp.1) (by decide) ⟨Nat.le_refl _, Nat.le_refl _⟩ rfl rfl (Nat.le_of_ble_eq_true rfl) d_V_state_11 (fun v h' H locs q hw => ?_)
    obtain ⟨rfl, rfl⟩ := q
    have hp := hp.2
    refine r_astore_n X hl d_V_state_14 rfl (by decide) (fun ls hl => ?_)
    have hl : Lc ls 4 [some (.ref (ad 0)), some (.int x1), some (.ref (ad (B_V_nodeOf fz x1 h))), none] := hl
    refine lv_aload_n X.1 X.2.1 d_V_state_15 rfl (hl.at 2 rfl) ?_
    refine r_geti X K hw fg_V_47 (shp_N (isN_V_nodeOf fz x1 h)) rfl d_V_state_16 ?_
    refine lv_if_eq (tgt := 26) X.1 X.2.1 d_V_state_19 (by decide) (fun g => ?_) (fun g => ?_)
    · rw [if_pos g] at hρ
      have hp := hp.1 g
      refine lv_iconst (v := (0 : Int32)) X.1 X.2.1 d_V_state_26 (by decide) ?_
      have hl : Lc ls 4 [some (.ref (ad 0)), none, some (.ref (ad (B_V_nodeOf fz x1 h))), none] := hl.mask [true, false, true, false]
      exact w_V_state_27 fz (B_V_nodeOf fz x1 h) (isN_V_nodeOf fz x1 h) (0 : Int32) h ρ hρ hp X K hr hk hl hw
    · rw [if_neg g] at hρ
      have hp := hp.2 g
      refine lv_iconst (v := (1 : Int32)) X.1 X.2.1 d_V_state_22 (by decide) ?_
      refine lv_goto (tgt := 27) X.1 X.2.1 d_V_state_23 (by decide) ?_
      have hl : Lc ls 4 [some (.ref (ad 0)), none, some (.ref (ad (B_V_nodeOf fz x1 h))), none] := hl.mask [true, false, true, false]
      exact w_V_state_27 fz (B_V_nodeOf fz x1 h) (isN_V_nodeOf fz x1 h) (1 : Int32) h ρ hρ hp X K hr hk hl hw
  · rw [if_pos g] at hρ
    have hp := hp.1 g
    refine lv_iconst (v := (-1 : Int32)) X.1 X.2.1 d_V_state_7 (by decide) ?_
    exact r_iret X hr hk hw ⟨congrArg (fun z => some (Value.int z)) hρ, rfl⟩ d_V_state_8
set_option maxRecDepth 100000 in
theorem c_V_state (l : Launch) (D : va_G) (cI cZ : ClassId) (base : Nat) (ad : Nat → Nat) (fz : Nat) (x1 : Int32) (h : HH) (hp : P_V_state fz x1 h) : Ct l D cI cZ base ad y_V_state b_V_state 4 (some .int) 1 21 [.ref (ad 0), .int x1] h (pI h (B_V_state fz x1 h)) := by
  refine Ct.of (by decide) (Nat.le_of_ble_eq_true rfl) (cat_ok rfl) ?_
  intro p e s m args below meth c ls X K hr hk hl hw
  exact w_V_state fz x1 h _ rfl hp X K hr hk hl hw
set_option maxHeartbeats 4000000 in
set_option maxRecDepth 100000 in
theorem w_V_generation (fz : Nat) (x1 : Int32) (h : HH) (ρ : Int64) (hρ : B_V_generation fz x1 h = ρ) (hp : P_V_generation fz x1 h) (X : CallFix p m c b_V_generation 2 s args TB R_V) (K : KK D cI cZ s) (hr : meth.sig.returnType = (some .long)) (hk : meth.locks = false) {ls : Array Slot} {H : Heap} {locs : List Loc} (hl : Lc ls 2 [some (.ref (ad 0)), some (.int x1)]) (hw : Hw D cI cZ base ad s shape h H locs) : W p l e (rmD 1 21) s m args below meth c H locs 0 0 (MQ below (Qw D cI cZ base ad (pJ h ρ)) args s 0 0 (fun q => base ≤ q)) (F0 m 0 ls []) := by
  unfold B_V_generation at hρ
  unfold P_V_generation at hp
  refine lv_iload_n X.1 X.2.1 d_V_generation_0 rfl (hl.at 1 rfl) ?_
  refine r_callS (rest := []) X K hw hl.1 mf_V_36 (c_V_isNode l D cI cZ base ad fz x1 h hp.1) (by decide) ⟨Nat.le_refl _, Nat.le_refl _⟩ rfl rfl (Nat.le_of_ble_eq_true rfl) d_V_generation_1 (fun v h' H locs q hw => ?_)
  obtain ⟨rfl, rfl⟩ := q
  have hp := hp.2
  refine lv_if_eq (tgt := 32) X.1 X.2.1 d_V_generation_4 (by decide) (fun g => ?_) (fun g => ?_)
  · rw [if_pos g] at hρ
    have hp := hp.1 g
    refine lv_lconst (v := (0 : Int64)) X.1 X.2.1 d_V_generation_32 (by decide) ?_
    exact r_lret X hr hk hw ⟨congrArg (fun z => some (Value.long z)) hρ, rfl⟩ d_V_generation_33
  · rw [if_neg g] at hρ
    have hp := hp.2 g
    refine lv_aload_n X.1 X.2.1 d_V_generation_7 rfl (hl.at 0 rfl) ?_
    refine lv_iload_n X.1 X.2.1 d_V_generation_8 rfl (hl.at 1 rfl) ?_
    refine r_callV (rest := []) X K hw hl.1 mf_V_43 rfl rfl rfl (c_V_nodeOf l D cI cZ base ad fz x1 h hp.1) (by decide) ⟨Nat.le_refl _, Nat.le_refl _⟩ rfl rfl (Nat.le_of_ble_eq_true rfl) d_V_generation_9 (fun v h' H locs q hw => ?_)
    obtain ⟨rfl, rfl⟩ := q
    have hp := hp.2
    refine r_geti X K hw fg_V_197 (shp_N (isN_V_nodeOf fz x1 h)) rfl d_V_generation_12 ?_
    refine lv_i2l X.1 X.2.1 d_V_generation_15 rfl ?_
    refine lv_bipush (v := (32 : Int32)) X.1 X.2.1 d_V_generation_16 (by decide) ?_
    refine lv_lshl X.1 X.2.1 d_V_generation_18 rfl ?_
    refine lv_aload_n X.1 X.2.1 d_V_generation_19 rfl (hl.at 0 rfl) ?_
    refine lv_iload_n X.1 X.2.1 d_V_generation_20 rfl (hl.at 1 rfl) ?_
    refine r_callV (rest := [.long ((((h (B_V_nodeOf fz x1 h) 6)).toInt64) <<< (((32 : Int32)).toInt64 &&& 63))]) X K hw hl.1 mf_V_43 rfl rfl rfl (c_V_nodeOf l D cI cZ base ad fz x1 h hp.1) (by decide) ⟨Nat.le_refl _, Nat.le_refl _⟩ rfl rfl (Nat.le_of_ble_eq_true rfl) d_V_generation_21 (fun v h' H locs q hw => ?_)
    obtain ⟨rfl, rfl⟩ := q
    have hp := hp.2
    refine r_geti X K hw fg_V_200 (shp_N (isN_V_nodeOf fz x1 h)) rfl d_V_generation_24 ?_
    refine lv_i2l X.1 X.2.1 d_V_generation_27 rfl ?_
    refine lv_ladd X.1 X.2.1 d_V_generation_28 ?_
    refine lv_goto (tgt := 33) X.1 X.2.1 d_V_generation_29 (by decide) ?_
    exact r_lret X hr hk hw ⟨congrArg (fun z => some (Value.long z)) hρ, rfl⟩ d_V_generation_33
set_option maxRecDepth 100000 in
theorem c_V_generation (l : Launch) (D : va_G) (cI cZ : ClassId) (base : Nat) (ad : Nat → Nat) (fz : Nat) (x1 : Int32) (h : HH) (hp : P_V_generation fz x1 h) : Ct l D cI cZ base ad y_V_generation b_V_generation 2 (some .long) 1 21 [.ref (ad 0), .int x1] h (pJ h (B_V_generation fz x1 h)) := by
  refine Ct.of (by decide) (Nat.le_of_ble_eq_true rfl) (cat_ok rfl) ?_
  intro p e s m args below meth c ls X K hr hk hl hw
  exact w_V_generation fz x1 h _ rfl hp X K hr hk hl hw
set_option maxHeartbeats 4000000 in
set_option maxRecDepth 100000 in
theorem w_V_map (fz : Nat) (x1 : Int32) (h : HH) (ρ : Int32) (hρ : B_V_map fz x1 h = ρ) (hp : P_V_map fz x1 h) (X : CallFix p m c b_V_map 2 s args TB R_V) (K : KK D cI cZ s) (hr : meth.sig.returnType = (some .int)) (hk : meth.locks = false) {ls : Array Slot} {H : Heap} {locs : List Loc} (hl : Lc ls 2 [some (.ref (ad 0)), some (.int x1)]) (hw : Hw D cI cZ base ad s shape h H locs) : W p l e (rmD 1 21) s m args below meth c H locs 0 0 (MQ below (Qw D cI cZ base ad (pI h ρ)) args s 0 0 (fun q => base ≤ q)) (F0 m 0 ls []) := by
  unfold B_V_map at hρ
  unfold P_V_map at hp
  refine lv_iload_n X.1 X.2.1 d_V_map_0 rfl (hl.at 1 rfl) ?_
  refine r_callS (rest := []) X K hw hl.1 mf_V_36 (c_V_isNode l D cI cZ base ad fz x1 h hp.1) (by decide) ⟨Nat.le_refl _, Nat.le_refl _⟩ rfl rfl (Nat.le_of_ble_eq_true rfl) d_V_map_1 (fun v h' H locs q hw => ?_)
  obtain ⟨rfl, rfl⟩ := q
  have hp := hp.2
  refine lv_if_eq (tgt := 18) X.1 X.2.1 d_V_map_4 (by decide) (fun g => ?_) (fun g => ?_)
  · rw [if_pos g] at hρ
    have hp := hp.1 g
    refine lv_iconst (v := (0 : Int32)) X.1 X.2.1 d_V_map_18 (by decide) ?_
    exact r_iret X hr hk hw ⟨congrArg (fun z => some (Value.int z)) hρ, rfl⟩ d_V_map_19
  · rw [if_neg g] at hρ
    have hp := hp.2 g
    refine lv_aload_n X.1 X.2.1 d_V_map_7 rfl (hl.at 0 rfl) ?_
    refine lv_iload_n X.1 X.2.1 d_V_map_8 rfl (hl.at 1 rfl) ?_
    refine r_callV (rest := []) X K hw hl.1 mf_V_43 rfl rfl rfl (c_V_nodeOf l D cI cZ base ad fz x1 h hp.1) (by decide) ⟨Nat.le_refl _, Nat.le_refl _⟩ rfl rfl (Nat.le_of_ble_eq_true rfl) d_V_map_9 (fun v h' H locs q hw => ?_)
    obtain ⟨rfl, rfl⟩ := q
    have hp := hp.2
    refine r_geti X K hw fg_V_166 (shp_N (isN_V_nodeOf fz x1 h)) rfl d_V_map_12 ?_
    refine lv_goto (tgt := 19) X.1 X.2.1 d_V_map_15 (by decide) ?_
    exact r_iret X hr hk hw ⟨congrArg (fun z => some (Value.int z)) hρ, rfl⟩ d_V_map_19
set_option maxRecDepth 100000 in
theorem c_V_map (l : Launch) (D : va_G) (cI cZ : ClassId) (base : Nat) (ad : Nat → Nat) (fz : Nat) (x1 : Int32) (h : HH) (hp : P_V_map fz x1 h) : Ct l D cI cZ base ad y_V_map b_V_map 2 (some .int) 1 21 [.ref (ad 0), .int x1] h (pI h (B_V_map fz x1 h)) := by
  refine Ct.of (by decide) (Nat.le_of_ble_eq_true rfl) (cat_ok rfl) ?_
  intro p e s m args below meth c ls X K hr hk hl hw
  exact w_V_map fz x1 h _ rfl hp X K hr hk hl hw
set_option maxHeartbeats 4000000 in
set_option maxRecDepth 100000 in
theorem w_E_extentAt (fz : Nat) (i0 : Nat) (n0 : isN i0) (x1 : Int32) (h : HH) (ρ : Int32) (hρ : B_E_extentAt fz i0 x1 h = ρ) (hp : P_E_extentAt fz i0 x1 h) (X : CallFix p m c b_E_extentAt 2 s args TB R_E) (K : KK D cI cZ s) (hr : meth.sig.returnType = (some .int)) (hk : meth.locks = false) {ls : Array Slot} {H : Heap} {locs : List Loc} (hl : Lc ls 2 [some (.ref (ad (i0 + 2))), some (.int x1)]) (hw : Hw D cI cZ base ad s shape h H locs) : W p l e (rmD 0 0) s m args below meth c H locs 0 0 (MQ below (Qw D cI cZ base ad (pI h ρ)) args s 0 0 (fun q => base ≤ q)) (F0 m 0 ls []) := by
  unfold B_E_extentAt at hρ
  unfold P_E_extentAt at hp
  refine lv_iload_n X.1 X.2.1 d_E_extentAt_0 rfl (hl.at 1 rfl) ?_
  refine lv_if_lt (tgt := 21) X.1 X.2.1 d_E_extentAt_1 (by decide) (fun g => ?_) (fun g => ?_)
  · rw [if_pos g] at hρ
    have hp := hp.1 g
    refine lv_iconst (v := (-1 : Int32)) X.1 X.2.1 d_E_extentAt_21 (by decide) ?_
    exact r_iret X hr hk hw ⟨congrArg (fun z => some (Value.int z)) hρ, rfl⟩ d_E_extentAt_22
  · rw [if_neg g] at hρ
    have hp := hp.2 g
    refine lv_iload_n X.1 X.2.1 d_E_extentAt_4 rfl (hl.at 1 rfl) ?_
    refine lv_aload_n X.1 X.2.1 d_E_extentAt_5 rfl (hl.at 0 rfl) ?_
    refine r_geti X K hw fg_E_15 (shp_E n0) rfl d_E_extentAt_6 ?_
    refine lv_icmp_ge (tgt := 21) X.1 X.2.1 d_E_extentAt_9 (by decide) (fun g => ?_) (fun g => ?_)
    · rw [if_pos g] at hρ
      have hp := hp.1 g
      refine lv_iconst (v := (-1 : Int32)) X.1 X.2.1 d_E_extentAt_21 (by decide) ?_
      exact r_iret X hr hk hw ⟨congrArg (fun z => some (Value.int z)) hρ, rfl⟩ d_E_extentAt_22
    · rw [if_neg g] at hρ
      have hp := hp.2 g
      refine lv_aload_n X.1 X.2.1 d_E_extentAt_12 rfl (hl.at 0 rfl) ?_
      refine r_getr (j := (i0 + 3)) X K hw fg_E_9 (shp_E n0) rfl d_E_extentAt_13 ?_
      refine lv_iload_n X.1 X.2.1 d_E_extentAt_16 rfl (hl.at 1 rfl) ?_
      refine r_ald X K hw (sha_3 n0) hp.1 d_E_extentAt_17 ?_
      have hp := hp.2
      refine lv_goto (tgt := 22) X.1 X.2.1 d_E_extentAt_18 (by decide) ?_
      exact r_iret X hr hk hw ⟨congrArg (fun z => some (Value.int z)) hρ, rfl⟩ d_E_extentAt_22
set_option maxRecDepth 100000 in
theorem c_E_extentAt (l : Launch) (D : va_G) (cI cZ : ClassId) (base : Nat) (ad : Nat → Nat) (fz : Nat) (i0 : Nat) (n0 : isN i0) (x1 : Int32) (h : HH) (hp : P_E_extentAt fz i0 x1 h) : Ct l D cI cZ base ad y_E_extentAt b_E_extentAt 2 (some .int) 0 0 [.ref (ad (i0 + 2)), .int x1] h (pI h (B_E_extentAt fz i0 x1 h)) := by
  refine Ct.of (by decide) (Nat.le_of_ble_eq_true rfl) (cat_ok rfl) ?_
  intro p e s m args below meth c ls X K hr hk hl hw
  exact w_E_extentAt fz i0 n0 x1 h _ rfl hp X K hr hk hl hw
set_option maxHeartbeats 4000000 in
set_option maxRecDepth 100000 in
theorem w_V_log (fz : Nat) (x1 : Int32) (x2 : Int32) (h : HH) (ρ : Int32) (hρ : B_V_log fz x1 x2 h = ρ) (hp : P_V_log fz x1 x2 h) (X : CallFix p m c b_V_log 3 s args TB R_V) (K : KK D cI cZ s) (hr : meth.sig.returnType = (some .int)) (hk : meth.locks = false) {ls : Array Slot} {H : Heap} {locs : List Loc} (hl : Lc ls 3 [some (.ref (ad 0)), some (.int x1), some (.int x2)]) (hw : Hw D cI cZ base ad s shape h H locs) : W p l e (rmD 1 21) s m args below meth c H locs 0 0 (MQ below (Qw D cI cZ base ad (pI h ρ)) args s 0 0 (fun q => base ≤ q)) (F0 m 0 ls []) := by
  unfold B_V_log at hρ
  unfold P_V_log at hp
  refine lv_iload_n X.1 X.2.1 d_V_log_0 rfl (hl.at 1 rfl) ?_
  refine r_callS (rest := []) X K hw hl.1 mf_V_36 (c_V_isNode l D cI cZ base ad fz x1 h hp.1) (by decide) ⟨Nat.le_refl _, Nat.le_refl _⟩ rfl rfl (Nat.le_of_ble_eq_true rfl) d_V_log_1 (fun v h' H locs q hw => ?_)
  obtain ⟨rfl, rfl⟩ := q
  have hp := hp.2
  refine lv_if_eq (tgt := 22) X.1 X.2.1 d_V_log_4 (by decide) (fun g => ?_) (fun g => ?_)
  · rw [if_pos g] at hρ
    have hp := hp.1 g
    refine lv_iconst (v := (-1 : Int32)) X.1 X.2.1 d_V_log_22 (by decide) ?_
    exact r_iret X hr hk hw ⟨congrArg (fun z => some (Value.int z)) hρ, rfl⟩ d_V_log_23
  · rw [if_neg g] at hρ
    have hp := hp.2 g
    refine lv_aload_n X.1 X.2.1 d_V_log_7 rfl (hl.at 0 rfl) ?_
    refine lv_iload_n X.1 X.2.1 d_V_log_8 rfl (hl.at 1 rfl) ?_
    refine r_callV (rest := []) X K hw hl.1 mf_V_43 rfl rfl rfl (c_V_nodeOf l D cI cZ base ad fz x1 h hp.1) (by decide) ⟨Nat.le_refl _, Nat.le_refl _⟩ rfl rfl (Nat.le_of_ble_eq_true rfl) d_V_log_9 (fun v h' H locs q hw => ?_)
    obtain ⟨rfl, rfl⟩ := q
    have hp := hp.2
    refine r_getr (j := ((B_V_nodeOf fz x1 h) + 2)) X K hw fg_V_64 (shp_N (isN_V_nodeOf fz x1 h)) rfl d_V_log_12 ?_
    refine lv_iload_n X.1 X.2.1 d_V_log_15 rfl (hl.at 2 rfl) ?_
    refine r_callV (rest := []) X K hw hl.1 mf_V_212 (shp_E (isN_V_nodeOf fz x1 h)) rfl rfl (c_E_extentAt l D cI cZ base ad fz (B_V_nodeOf fz x1 h) (isN_V_nodeOf fz x1 h) x2 h hp.1) (by decide) ⟨Nat.le_refl _, Nat.le_refl _⟩ rfl rfl (Nat.le_of_ble_eq_true rfl) d_V_log_16 (fun v h' H locs q hw => ?_)
    obtain ⟨rfl, rfl⟩ := q
    have hp := hp.2
    refine lv_goto (tgt := 23) X.1 X.2.1 d_V_log_19 (by decide) ?_
    exact r_iret X hr hk hw ⟨congrArg (fun z => some (Value.int z)) hρ, rfl⟩ d_V_log_23
set_option maxRecDepth 100000 in
theorem c_V_log (l : Launch) (D : va_G) (cI cZ : ClassId) (base : Nat) (ad : Nat → Nat) (fz : Nat) (x1 : Int32) (x2 : Int32) (h : HH) (hp : P_V_log fz x1 x2 h) : Ct l D cI cZ base ad y_V_log b_V_log 3 (some .int) 1 21 [.ref (ad 0), .int x1, .int x2] h (pI h (B_V_log fz x1 x2 h)) := by
  refine Ct.of (by decide) (Nat.le_of_ble_eq_true rfl) (cat_ok rfl) ?_
  intro p e s m args below meth c ls X K hr hk hl hw
  exact w_V_log fz x1 x2 h _ rfl hp X K hr hk hl hw
end WALK
