section WALK
variable {p : Program} {l : Launch} {e : Env} {s : State} {m : MethodId} {args : Array Value} {below : List Frame} {meth : Method} {c : Code} {D : va_G} {cI cZ : ClassId} {base : Nat} {ad : Nat → Nat} {R : Room} {Q : State → Prop} {cells slots : Nat}
set_option maxHeartbeats 4000000 in
set_option maxRecDepth 100000 in
theorem w_V_traffic (fz : Nat) (x1 : Int32) (h : HH) (ρ : Int32) (hρ : B_V_traffic fz x1 h = ρ) (hp : P_V_traffic fz x1 h) (X : CallFix p m c b_V_traffic 3 s args TB R_V) (K : KK D cI cZ s) (hr : meth.sig.returnType = (some .int)) (hk : meth.locks = false) {ls : Array Slot} {H : Heap} {locs : List Loc} (hl : Lc ls 3 [some (.ref (ad 0)), some (.int x1), none]) (hw : Hw D cI cZ base ad s shape h H locs) : W p l e (rmD 1 21) s m args below meth c H locs 0 0 (MQ below (Qw D cI cZ base ad (pI h ρ)) args s 0 0 (fun q => base ≤ q)) (F0 m 0 ls []) := by
  unfold B_V_traffic at hρ
  unfold P_V_traffic at hp
  refine lv_iload_n X.1 X.2.1 d_V_traffic_0 rfl (hl.at 1 rfl) ?_
  refine r_callS (rest := []) X K hw hl.1 mf_V_36 (c_V_isNode l D cI cZ base ad fz x1 h hp.1) (by decide) ⟨Nat.le_refl _, Nat.le_refl _⟩ rfl rfl (Nat.le_of_ble_eq_true rfl) d_V_traffic_1 (fun v h' H locs q hw => ?_)
  obtain ⟨rfl, rfl⟩ := q
  have hp := hp.2
  refine lv_if_ne (tgt := 9) X.1 X.2.1 d_V_traffic_4 (by decide) (fun g => ?_) (fun g => ?_)
  · rw [if_neg g] at hρ
    have hp := hp.2 g
    refine lv_aload_n X.1 X.2.1 d_V_traffic_9 rfl (hl.at 0 rfl) ?_
    refine lv_iload_n X.1 X.2.1 d_V_traffic_10 rfl (hl.at 1 rfl) ?_
    refine r_callV (rest := []) X K hw hl.1 mf_V_43 rfl rfl rfl (c_V_nodeOf l D cI cZ base ad fz x1 h hp.1) (by decide) ⟨Nat.le_refl _, Nat.le_refl _⟩ rfl rfl (Nat.le_of_ble_eq_true rfl) d_V_traffic_11 (fun v h' H locs q hw => ?_)
    obtain ⟨rfl, rfl⟩ := q
    have hp := hp.2
    refine r_astore_n X hl d_V_traffic_14 rfl (by decide) (fun ls hl => ?_)
    have hl : Lc ls 3 [some (.ref (ad 0)), some (.int x1), some (.ref (ad (B_V_nodeOf fz x1 h)))] := hl
    refine lv_aload_n X.1 X.2.1 d_V_traffic_15 rfl (hl.at 2 rfl) ?_
    refine r_getr (j := ((B_V_nodeOf fz x1 h) + 4)) X K hw fg_V_94 (shp_N (isN_V_nodeOf fz x1 h)) rfl d_V_traffic_16 ?_
    refine r_geti X K hw fg_V_110 (shp_O (isN_V_nodeOf fz x1 h)) rfl d_V_traffic_19 ?_
    refine lv_bipush (v := (100 : Int32)) X.1 X.2.1 d_V_traffic_22 (by decide) ?_
    refine lv_aload_n X.1 X.2.1 d_V_traffic_24 rfl (hl.at 2 rfl) ?_
    refine r_getr (j := ((B_V_nodeOf fz x1 h) + 8)) X K hw fg_V_133 (shp_N (isN_V_nodeOf fz x1 h)) rfl d_V_traffic_25 ?_
    refine r_geti X K hw fg_V_137 (shp_L (isN_V_nodeOf fz x1 h)) rfl d_V_traffic_28 ?_
    refine lv_imul X.1 X.2.1 d_V_traffic_31 ?_
    refine lv_iadd X.1 X.2.1 d_V_traffic_32 ?_
    refine lv_sipush (v := (10000 : Int32)) X.1 X.2.1 d_V_traffic_33 (by decide) ?_
    refine lv_aload_n X.1 X.2.1 d_V_traffic_36 rfl (hl.at 2 rfl) ?_
    refine r_geti X K hw fg_V_158 (shp_N (isN_V_nodeOf fz x1 h)) rfl d_V_traffic_37 ?_
    refine r_callS (rest := [.int (10000 : Int32), .int ((h ((B_V_nodeOf fz x1 h) + 4) 4) + ((100 : Int32) * (h ((B_V_nodeOf fz x1 h) + 8) 1)))]) X K hw hl.1 mf_V_161 (c_I_bitCount l D cI cZ base ad fz (h (B_V_nodeOf fz x1 h) 14) h hp.1) (by decide) ⟨Nat.le_refl _, Nat.le_refl _⟩ rfl rfl (Nat.le_of_ble_eq_true rfl) d_V_traffic_40 (fun v h' H locs q hw => ?_)
    obtain ⟨rfl, rfl⟩ := q
    have hp := hp.2
    refine lv_imul X.1 X.2.1 d_V_traffic_43 ?_
    refine lv_iadd X.1 X.2.1 d_V_traffic_44 ?_
    exact r_iret X hr hk hw ⟨congrArg (fun z => some (Value.int z)) hρ, rfl⟩ d_V_traffic_45
  · rw [if_pos g] at hρ
    have hp := hp.1 g
    refine lv_iconst (v := (0 : Int32)) X.1 X.2.1 d_V_traffic_7 (by decide) ?_
    exact r_iret X hr hk hw ⟨congrArg (fun z => some (Value.int z)) hρ, rfl⟩ d_V_traffic_8
set_option maxRecDepth 100000 in
theorem c_V_traffic (l : Launch) (D : va_G) (cI cZ : ClassId) (base : Nat) (ad : Nat → Nat) (fz : Nat) (x1 : Int32) (h : HH) (hp : P_V_traffic fz x1 h) : Ct l D cI cZ base ad y_V_traffic b_V_traffic 3 (some .int) 1 21 [.ref (ad 0), .int x1] h (pI h (B_V_traffic fz x1 h)) := by
  refine Ct.of (by decide) (Nat.le_of_ble_eq_true rfl) (cat_ok rfl) ?_
  intro p e s m args below meth c ls X K hr hk hl hw
  exact w_V_traffic fz x1 h _ rfl hp X K hr hk hl hw
set_option maxHeartbeats 4000000 in
set_option maxRecDepth 100000 in
theorem w_M_isNode (fz : Nat) (x0 : Int32) (h : HH) (ρ : Int32) (hρ : B_M_isNode fz x0 h = ρ) (hp : P_M_isNode fz x0 h) (X : CallFix p m c b_M_isNode 1 s args TB R_M) (K : KK D cI cZ s) (hr : meth.sig.returnType = (some .boolean)) (hk : meth.locks = false) {ls : Array Slot} {H : Heap} {locs : List Loc} (hl : Lc ls 1 [some (.int x0)]) (hw : Hw D cI cZ base ad s shape h H locs) : W p l e (rmD 0 0) s m args below meth c H locs 0 0 (MQ below (Qw D cI cZ base ad (pI h ρ)) args s 0 0 (fun q => base ≤ q)) (F0 m 0 ls []) := by
  unfold B_M_isNode at hρ
  unfold P_M_isNode at hp
  refine lv_iload_n X.1 X.2.1 d_M_isNode_0 rfl (hl.at 0 rfl) ?_
  refine lv_if_eq (tgt := 9) X.1 X.2.1 d_M_isNode_1 (by decide) (fun g => ?_) (fun g => ?_)
  · rw [if_pos g] at hρ
    have hp := hp.1 g
    refine lv_iconst (v := (1 : Int32)) X.1 X.2.1 d_M_isNode_9 (by decide) ?_
    refine lv_goto (tgt := 14) X.1 X.2.1 d_M_isNode_10 (by decide) ?_
    exact r_zret X hr hk hw (by decide) ⟨congrArg (fun z => some (Value.int z)) hρ, rfl⟩ d_M_isNode_14
  · rw [if_neg g] at hρ
    have hp := hp.2 g
    refine lv_iload_n X.1 X.2.1 d_M_isNode_4 rfl (hl.at 0 rfl) ?_
    refine lv_iconst (v := (1 : Int32)) X.1 X.2.1 d_M_isNode_5 (by decide) ?_
    refine lv_icmp_ne (tgt := 13) X.1 X.2.1 d_M_isNode_6 (by decide) (fun g => ?_) (fun g => ?_)
    · rw [if_neg g] at hρ
      have hp := hp.2 g
      refine lv_iconst (v := (0 : Int32)) X.1 X.2.1 d_M_isNode_13 (by decide) ?_
      exact r_zret X hr hk hw (by decide) ⟨congrArg (fun z => some (Value.int z)) hρ, rfl⟩ d_M_isNode_14
    · rw [if_pos g] at hρ
      have hp := hp.1 g
      refine lv_iconst (v := (1 : Int32)) X.1 X.2.1 d_M_isNode_9 (by decide) ?_
      refine lv_goto (tgt := 14) X.1 X.2.1 d_M_isNode_10 (by decide) ?_
      exact r_zret X hr hk hw (by decide) ⟨congrArg (fun z => some (Value.int z)) hρ, rfl⟩ d_M_isNode_14
set_option maxRecDepth 100000 in
theorem c_M_isNode (l : Launch) (D : va_G) (cI cZ : ClassId) (base : Nat) (ad : Nat → Nat) (fz : Nat) (x0 : Int32) (h : HH) (hp : P_M_isNode fz x0 h) : Ct l D cI cZ base ad y_M_isNode b_M_isNode 1 (some .boolean) 0 0 [.int x0] h (pI h (B_M_isNode fz x0 h)) := by
  refine Ct.of (by decide) (Nat.le_of_ble_eq_true rfl) (cat_ok rfl) ?_
  intro p e s m args below meth c ls X K hr hk hl hw
  exact w_M_isNode fz x0 h _ rfl hp X K hr hk hl hw
set_option maxHeartbeats 4000000 in
set_option maxRecDepth 100000 in
theorem w_M_isBlock (fz : Nat) (x0 : Int32) (h : HH) (ρ : Int32) (hρ : B_M_isBlock fz x0 h = ρ) (hp : P_M_isBlock fz x0 h) (X : CallFix p m c b_M_isBlock 1 s args TB R_M) (K : KK D cI cZ s) (hr : meth.sig.returnType = (some .boolean)) (hk : meth.locks = false) {ls : Array Slot} {H : Heap} {locs : List Loc} (hl : Lc ls 1 [some (.int x0)]) (hw : Hw D cI cZ base ad s shape h H locs) : W p l e (rmD 0 0) s m args below meth c H locs 0 0 (MQ below (Qw D cI cZ base ad (pI h ρ)) args s 0 0 (fun q => base ≤ q)) (F0 m 0 ls []) := by
  unfold B_M_isBlock at hρ
  unfold P_M_isBlock at hp
  refine lv_iload_n X.1 X.2.1 d_M_isBlock_0 rfl (hl.at 0 rfl) ?_
  refine lv_if_lt (tgt := 14) X.1 X.2.1 d_M_isBlock_1 (by decide) (fun g => ?_) (fun g => ?_)
  · rw [if_pos g] at hρ
    have hp := hp.1 g
    refine lv_iconst (v := (0 : Int32)) X.1 X.2.1 d_M_isBlock_14 (by decide) ?_
    exact r_zret X hr hk hw (by decide) ⟨congrArg (fun z => some (Value.int z)) hρ, rfl⟩ d_M_isBlock_15
  · rw [if_neg g] at hρ
    have hp := hp.2 g
    refine lv_iload_n X.1 X.2.1 d_M_isBlock_4 rfl (hl.at 0 rfl) ?_
    refine lv_bipush (v := (31 : Int32)) X.1 X.2.1 d_M_isBlock_5 (by decide) ?_
    refine lv_icmp_gt (tgt := 14) X.1 X.2.1 d_M_isBlock_7 (by decide) (fun g => ?_) (fun g => ?_)
    · rw [if_pos g] at hρ
      have hp := hp.1 g
      refine lv_iconst (v := (0 : Int32)) X.1 X.2.1 d_M_isBlock_14 (by decide) ?_
      exact r_zret X hr hk hw (by decide) ⟨congrArg (fun z => some (Value.int z)) hρ, rfl⟩ d_M_isBlock_15
    · rw [if_neg g] at hρ
      have hp := hp.2 g
      refine lv_iconst (v := (1 : Int32)) X.1 X.2.1 d_M_isBlock_10 (by decide) ?_
      refine lv_goto (tgt := 15) X.1 X.2.1 d_M_isBlock_11 (by decide) ?_
      exact r_zret X hr hk hw (by decide) ⟨congrArg (fun z => some (Value.int z)) hρ, rfl⟩ d_M_isBlock_15
set_option maxRecDepth 100000 in
theorem c_M_isBlock (l : Launch) (D : va_G) (cI cZ : ClassId) (base : Nat) (ad : Nat → Nat) (fz : Nat) (x0 : Int32) (h : HH) (hp : P_M_isBlock fz x0 h) : Ct l D cI cZ base ad y_M_isBlock b_M_isBlock 1 (some .boolean) 0 0 [.int x0] h (pI h (B_M_isBlock fz x0 h)) := by
  refine Ct.of (by decide) (Nat.le_of_ble_eq_true rfl) (cat_ok rfl) ?_
  intro p e s m args below meth c ls X K hr hk hl hw
  exact w_M_isBlock fz x0 h _ rfl hp X K hr hk hl hw
set_option maxHeartbeats 4000000 in
set_option maxRecDepth 100000 in
theorem w_M_pending_6 (X : CallFix p m c b_M_pending 6 s args TB R_M) (K : KK D cI cZ s) (hr : meth.sig.returnType = (some .int)) (hk : meth.locks = false) (fz : Nat) : ∀ (fu : Nat) (x1 : Int32) (x2 : Int32) (x3 : Int32) (x4 : Int32) (x5 : Int32) (h : HH) (ρ : Int32) (_ : B_M_pending_6 fz fu x1 x2 x3 x4 x5 h = ρ) (_ : P_M_pending_6 fz fu x1 x2 x3 x4 x5 h) {ls : Array Slot} {H : Heap} {locs : List Loc} (_ : Lc ls 6 [some (.ref (ad 27)), some (.int x1), some (.int x2), some (.int x3), some (.int x4), some (.int x5)]) (_ : Hw D cI cZ base ad s shape h H locs), W p l e (rmD 0 0) s m args below meth c H locs 0 0 (MQ below (Qw D cI cZ base ad (pI h ρ)) args s 0 0 (fun q => base ≤ q)) (F0 m 6 ls []) := by
  intro fu
  induction fu with
  | zero =>
    intro x1 x2 x3 x4 x5 h ρ hρ hp ls H locs hl hw
    exact hp.elim
  | succ fu ih =>
    intro x1 x2 x3 x4 x5 h ρ hρ hp ls H locs hl hw
    rw [B_M_pending_6] at hρ
    rw [P_M_pending_6] at hp
    refine lv_iload X.1 X.2.1 d_M_pending_6 (hl.at 5 rfl) ?_
    refine lv_aload_n X.1 X.2.1 d_M_pending_8 rfl (hl.at 0 rfl) ?_
    refine r_geti X K hw fg_M_87 rfl rfl d_M_pending_9 ?_
    refine lv_icmp_gt (tgt := 68) X.1 X.2.1 d_M_pending_12 (by decide) (fun g => ?_) (fun g => ?_)
    · rw [if_pos g] at hρ
      have hp := hp.1 g
      refine lv_iload X.1 X.2.1 d_M_pending_68 (hl.at 4 rfl) ?_
      exact r_iret X hr hk hw ⟨congrArg (fun z => some (Value.int z)) hρ, rfl⟩ d_M_pending_70
    · rw [if_neg g] at hρ
      have hp := hp.2 g
      refine lv_aload_n X.1 X.2.1 d_M_pending_15 rfl (hl.at 0 rfl) ?_
      refine r_getr (j := 32) X K hw fg_M_22 rfl rfl d_M_pending_16 ?_
      refine lv_iload X.1 X.2.1 d_M_pending_19 (hl.at 5 rfl) ?_
      refine r_ald X K hw rfl hp.1 d_M_pending_21 ?_
      have hp := hp.2
      refine lv_iconst (v := (1 : Int32)) X.1 X.2.1 d_M_pending_22 (by decide) ?_
      refine lv_icmp_ne (tgt := 62) X.1 X.2.1 d_M_pending_23 (by decide) (fun g => ?_) (fun g => ?_)
      · rw [if_neg g] at hρ
        have hp := hp.2 g
        refine lv_iincL X.1 X.2.1 hl (v := (x5 + 1)) d_M_pending_62 rfl (congrArg (fun z => x5 + z) (by decide)) (by decide) (fun ls hl => ?_)
        have hl : Lc ls 6 [some (.ref (ad 27)), some (.int x1), some (.int x2), some (.int x3), some (.int x4), some (.int (x5 + 1))] := hl
        refine lv_goto (tgt := 6) X.1 X.2.1 d_M_pending_65 (by decide) ?_
        exact ih x1 x2 x3 x4 (x5 + 1) h ρ hρ hp hl hw
      · rw [if_pos g] at hρ
        have hp := hp.1 g
        refine lv_aload_n X.1 X.2.1 d_M_pending_26 rfl (hl.at 0 rfl) ?_
        refine r_getr (j := 28) X K hw fg_M_7 rfl rfl d_M_pending_27 ?_
        refine lv_iload X.1 X.2.1 d_M_pending_30 (hl.at 5 rfl) ?_
        refine r_ald X K hw rfl hp.1 d_M_pending_32 ?_
        have hp := hp.2
        refine lv_iload_n X.1 X.2.1 d_M_pending_33 rfl (hl.at 1 rfl) ?_
        refine lv_icmp_ne (tgt := 62) X.1 X.2.1 d_M_pending_34 (by decide) (fun g => ?_) (fun g => ?_)
        · rw [if_neg g] at hρ
          have hp := hp.2 g
          refine lv_iincL X.1 X.2.1 hl (v := (x5 + 1)) d_M_pending_62 rfl (congrArg (fun z => x5 + z) (by decide)) (by decide) (fun ls hl => ?_)
          have hl : Lc ls 6 [some (.ref (ad 27)), some (.int x1), some (.int x2), some (.int x3), some (.int x4), some (.int (x5 + 1))] := hl
          refine lv_goto (tgt := 6) X.1 X.2.1 d_M_pending_65 (by decide) ?_
          exact ih x1 x2 x3 x4 (x5 + 1) h ρ hρ hp hl hw
        · rw [if_pos g] at hρ
          have hp := hp.1 g
          refine lv_aload_n X.1 X.2.1 d_M_pending_37 rfl (hl.at 0 rfl) ?_
          refine r_getr (j := 29) X K hw fg_M_13 rfl rfl d_M_pending_38 ?_
          refine lv_iload X.1 X.2.1 d_M_pending_41 (hl.at 5 rfl) ?_
          refine r_ald X K hw rfl hp.1 d_M_pending_43 ?_
          have hp := hp.2
          refine lv_iload_n X.1 X.2.1 d_M_pending_44 rfl (hl.at 2 rfl) ?_
          refine lv_icmp_lt (tgt := 62) X.1 X.2.1 d_M_pending_45 (by decide) (fun g => ?_) (fun g => ?_)
          · rw [if_pos g] at hρ
            have hp := hp.1 g
            refine lv_iincL X.1 X.2.1 hl (v := (x5 + 1)) d_M_pending_62 rfl (congrArg (fun z => x5 + z) (by decide)) (by decide) (fun ls hl => ?_)
            have hl : Lc ls 6 [some (.ref (ad 27)), some (.int x1), some (.int x2), some (.int x3), some (.int x4), some (.int (x5 + 1))] := hl
            refine lv_goto (tgt := 6) X.1 X.2.1 d_M_pending_65 (by decide) ?_
            exact ih x1 x2 x3 x4 (x5 + 1) h ρ hρ hp hl hw
          · rw [if_neg g] at hρ
            have hp := hp.2 g
            refine lv_aload_n X.1 X.2.1 d_M_pending_48 rfl (hl.at 0 rfl) ?_
            refine r_getr (j := 29) X K hw fg_M_13 rfl rfl d_M_pending_49 ?_
            refine lv_iload X.1 X.2.1 d_M_pending_52 (hl.at 5 rfl) ?_
            refine r_ald X K hw rfl hp.1 d_M_pending_54 ?_
            have hp := hp.2
            refine lv_iload_n X.1 X.2.1 d_M_pending_55 rfl (hl.at 3 rfl) ?_
            refine lv_icmp_gt (tgt := 62) X.1 X.2.1 d_M_pending_56 (by decide) (fun g => ?_) (fun g => ?_)
            · rw [if_pos g] at hρ
              have hp := hp.1 g
              refine lv_iincL X.1 X.2.1 hl (v := (x5 + 1)) d_M_pending_62 rfl (congrArg (fun z => x5 + z) (by decide)) (by decide) (fun ls hl => ?_)
              have hl : Lc ls 6 [some (.ref (ad 27)), some (.int x1), some (.int x2), some (.int x3), some (.int x4), some (.int (x5 + 1))] := hl
              refine lv_goto (tgt := 6) X.1 X.2.1 d_M_pending_65 (by decide) ?_
              exact ih x1 x2 x3 x4 (x5 + 1) h ρ hρ hp hl hw
            · rw [if_neg g] at hρ
              have hp := hp.2 g
              refine lv_iincL X.1 X.2.1 hl (v := (x4 + 1)) d_M_pending_59 rfl (congrArg (fun z => x4 + z) (by decide)) (by decide) (fun ls hl => ?_)
              have hl : Lc ls 6 [some (.ref (ad 27)), some (.int x1), some (.int x2), some (.int x3), some (.int (x4 + 1)), some (.int x5)] := hl
              refine lv_iincL X.1 X.2.1 hl (v := (x5 + 1)) d_M_pending_62 rfl (congrArg (fun z => x5 + z) (by decide)) (by decide) (fun ls hl => ?_)
              have hl : Lc ls 6 [some (.ref (ad 27)), some (.int x1), some (.int x2), some (.int x3), some (.int (x4 + 1)), some (.int (x5 + 1))] := hl
              refine lv_goto (tgt := 6) X.1 X.2.1 d_M_pending_65 (by decide) ?_
              exact ih x1 x2 x3 (x4 + 1) (x5 + 1) h ρ hρ hp hl hw
set_option maxHeartbeats 4000000 in
set_option maxRecDepth 100000 in
theorem w_M_pending (fz : Nat) (x1 : Int32) (x2 : Int32) (x3 : Int32) (h : HH) (ρ : Int32) (hρ : B_M_pending fz x1 x2 x3 h = ρ) (hp : P_M_pending fz x1 x2 x3 h) (X : CallFix p m c b_M_pending 6 s args TB R_M) (K : KK D cI cZ s) (hr : meth.sig.returnType = (some .int)) (hk : meth.locks = false) {ls : Array Slot} {H : Heap} {locs : List Loc} (hl : Lc ls 6 [some (.ref (ad 27)), some (.int x1), some (.int x2), some (.int x3), none, none]) (hw : Hw D cI cZ base ad s shape h H locs) : W p l e (rmD 0 0) s m args below meth c H locs 0 0 (MQ below (Qw D cI cZ base ad (pI h ρ)) args s 0 0 (fun q => base ≤ q)) (F0 m 0 ls []) := by
  unfold B_M_pending at hρ
  unfold P_M_pending at hp
  refine lv_iconst (v := (0 : Int32)) X.1 X.2.1 d_M_pending_0 (by decide) ?_
  refine r_istore X hl d_M_pending_1 (by decide) (fun ls hl => ?_)
  have hl : Lc ls 6 [some (.ref (ad 27)), some (.int x1), some (.int x2), some (.int x3), some (.int (0 : Int32)), none] := hl
  refine lv_iconst (v := (1 : Int32)) X.1 X.2.1 d_M_pending_3 (by decide) ?_
  refine r_istore X hl d_M_pending_4 (by decide) (fun ls hl => ?_)
  have hl : Lc ls 6 [some (.ref (ad 27)), some (.int x1), some (.int x2), some (.int x3), some (.int (0 : Int32)), some (.int (1 : Int32))] := hl
  exact w_M_pending_6 X K hr hk fz fz x1 x2 x3 (0 : Int32) (1 : Int32) h ρ hρ hp hl hw
set_option maxRecDepth 100000 in
theorem c_M_pending (l : Launch) (D : va_G) (cI cZ : ClassId) (base : Nat) (ad : Nat → Nat) (fz : Nat) (x1 : Int32) (x2 : Int32) (x3 : Int32) (h : HH) (hp : P_M_pending fz x1 x2 x3 h) : Ct l D cI cZ base ad y_M_pending b_M_pending 6 (some .int) 0 0 [.ref (ad 27), .int x1, .int x2, .int x3] h (pI h (B_M_pending fz x1 x2 x3 h)) := by
  refine Ct.of (by decide) (Nat.le_of_ble_eq_true rfl) (cat_ok rfl) ?_
  intro p e s m args below meth c ls X K hr hk hl hw
  exact w_M_pending fz x1 x2 x3 h _ rfl hp X K hr hk hl hw
set_option maxHeartbeats 4000000 in
set_option maxRecDepth 100000 in
theorem w_M_inLog_4 (X : CallFix p m c b_M_inLog 4 s args TB R_M) (K : KK D cI cZ s) (hr : meth.sig.returnType = (some .int)) (hk : meth.locks = false) (fz : Nat) : ∀ (fu : Nat) (x1 : Int32) (x2 : Int32) (x3 : Int32) (h : HH) (ρ : Int32) (_ : B_M_inLog_4 fz fu x1 x2 x3 h = ρ) (_ : P_M_inLog_4 fz fu x1 x2 x3 h) {ls : Array Slot} {H : Heap} {locs : List Loc} (_ : Lc ls 4 [some (.ref (ad 27)), some (.int x1), some (.int x2), some (.int x3)]) (_ : Hw D cI cZ base ad s shape h H locs), W p l e (rmD 0 0) s m args below meth c H locs 0 0 (MQ below (Qw D cI cZ base ad (pI h ρ)) args s 0 0 (fun q => base ≤ q)) (F0 m 4 ls []) := by
  intro fu
  induction fu with
  | zero =>
    intro x1 x2 x3 h ρ hρ hp ls H locs hl hw
    exact hp.elim
  | succ fu ih =>
    intro x1 x2 x3 h ρ hρ hp ls H locs hl hw
    rw [B_M_inLog_4] at hρ
    rw [P_M_inLog_4] at hp
    refine lv_iload_n X.1 X.2.1 d_M_inLog_4 rfl (hl.at 3 rfl) ?_
    refine lv_bipush (v := (8 : Int32)) X.1 X.2.1 d_M_inLog_5 (by decide) ?_
    refine lv_icmp_ge (tgt := 38) X.1 X.2.1 d_M_inLog_7 (by decide) (fun g => ?_) (fun g => ?_)
    · rw [if_pos g] at hρ
      have hp := hp.1 g
      refine lv_iload_n X.1 X.2.1 d_M_inLog_38 rfl (hl.at 2 rfl) ?_
      exact r_iret X hr hk hw ⟨congrArg (fun z => some (Value.int z)) hρ, rfl⟩ d_M_inLog_39
    · rw [if_neg g] at hρ
      have hp := hp.2 g
      refine lv_aload_n X.1 X.2.1 d_M_inLog_10 rfl (hl.at 0 rfl) ?_
      refine r_getr (j := 36) X K hw fg_M_35 rfl rfl d_M_inLog_11 ?_
      refine lv_bipush (v := (8 : Int32)) X.1 X.2.1 d_M_inLog_14 (by decide) ?_
      refine lv_iload_n X.1 X.2.1 d_M_inLog_16 rfl (hl.at 1 rfl) ?_
      refine lv_imul X.1 X.2.1 d_M_inLog_17 ?_
      refine lv_iload_n X.1 X.2.1 d_M_inLog_18 rfl (hl.at 3 rfl) ?_
      refine lv_iadd X.1 X.2.1 d_M_inLog_19 ?_
      refine r_aldz X K hw rfl hp.1 d_M_inLog_20 ?_
      have hp := hp.2
      refine lv_if_eq (tgt := 30) X.1 X.2.1 d_M_inLog_21 (by decide) (fun g => ?_) (fun g => ?_)
      · rw [if_pos g] at hρ
        have hp := hp.1 g
        refine lv_iload_n X.1 X.2.1 d_M_inLog_30 rfl (hl.at 2 rfl) ?_
        refine r_istore_n X hl d_M_inLog_31 rfl (by decide) (fun ls hl => ?_)
        have hl : Lc ls 4 [some (.ref (ad 27)), some (.int x1), some (.int x2), some (.int x3)] := hl
        refine lv_iincL X.1 X.2.1 hl (v := (x3 + 1)) d_M_inLog_32 rfl (congrArg (fun z => x3 + z) (by decide)) (by decide) (fun ls hl => ?_)
        have hl : Lc ls 4 [some (.ref (ad 27)), some (.int x1), some (.int x2), some (.int (x3 + 1))] := hl
        refine lv_goto (tgt := 4) X.1 X.2.1 d_M_inLog_35 (by decide) ?_
        exact ih x1 x2 (x3 + 1) h ρ hρ hp hl hw
      · rw [if_neg g] at hρ
        have hp := hp.2 g
        refine lv_iload_n X.1 X.2.1 d_M_inLog_24 rfl (hl.at 2 rfl) ?_
        refine lv_iconst (v := (1 : Int32)) X.1 X.2.1 d_M_inLog_25 (by decide) ?_
        refine lv_iadd X.1 X.2.1 d_M_inLog_26 ?_
        refine lv_goto (tgt := 31) X.1 X.2.1 d_M_inLog_27 (by decide) ?_
        refine r_istore_n X hl d_M_inLog_31 rfl (by decide) (fun ls hl => ?_)
        have hl : Lc ls 4 [some (.ref (ad 27)), some (.int x1), some (.int (x2 + (1 : Int32))), some (.int x3)] := hl
        refine lv_iincL X.1 X.2.1 hl (v := (x3 + 1)) d_M_inLog_32 rfl (congrArg (fun z => x3 + z) (by decide)) (by decide) (fun ls hl => ?_)
        have hl : Lc ls 4 [some (.ref (ad 27)), some (.int x1), some (.int (x2 + (1 : Int32))), some (.int (x3 + 1))] := hl
        refine lv_goto (tgt := 4) X.1 X.2.1 d_M_inLog_35 (by decide) ?_
        exact ih x1 (x2 + (1 : Int32)) (x3 + 1) h ρ hρ hp hl hw
set_option maxHeartbeats 4000000 in
set_option maxRecDepth 100000 in
theorem w_M_inLog (fz : Nat) (x1 : Int32) (h : HH) (ρ : Int32) (hρ : B_M_inLog fz x1 h = ρ) (hp : P_M_inLog fz x1 h) (X : CallFix p m c b_M_inLog 4 s args TB R_M) (K : KK D cI cZ s) (hr : meth.sig.returnType = (some .int)) (hk : meth.locks = false) {ls : Array Slot} {H : Heap} {locs : List Loc} (hl : Lc ls 4 [some (.ref (ad 27)), some (.int x1), none, none]) (hw : Hw D cI cZ base ad s shape h H locs) : W p l e (rmD 0 0) s m args below meth c H locs 0 0 (MQ below (Qw D cI cZ base ad (pI h ρ)) args s 0 0 (fun q => base ≤ q)) (F0 m 0 ls []) := by
  unfold B_M_inLog at hρ
  unfold P_M_inLog at hp
  refine lv_iconst (v := (0 : Int32)) X.1 X.2.1 d_M_inLog_0 (by decide) ?_
  refine r_istore_n X hl d_M_inLog_1 rfl (by decide) (fun ls hl => ?_)
  have hl : Lc ls 4 [some (.ref (ad 27)), some (.int x1), some (.int (0 : Int32)), none] := hl
  refine lv_iconst (v := (0 : Int32)) X.1 X.2.1 d_M_inLog_2 (by decide) ?_
  refine r_istore_n X hl d_M_inLog_3 rfl (by decide) (fun ls hl => ?_)
  have hl : Lc ls 4 [some (.ref (ad 27)), some (.int x1), some (.int (0 : Int32)), some (.int (0 : Int32))] := hl
  exact w_M_inLog_4 X K hr hk fz fz x1 (0 : Int32) (0 : Int32) h ρ hρ hp hl hw
set_option maxRecDepth 100000 in
theorem c_M_inLog (l : Launch) (D : va_G) (cI cZ : ClassId) (base : Nat) (ad : Nat → Nat) (fz : Nat) (x1 : Int32) (h : HH) (hp : P_M_inLog fz x1 h) : Ct l D cI cZ base ad y_M_inLog b_M_inLog 4 (some .int) 0 0 [.ref (ad 27), .int x1] h (pI h (B_M_inLog fz x1 h)) := by
  refine Ct.of (by decide) (Nat.le_of_ble_eq_true rfl) (cat_ok rfl) ?_
  intro p e s m args below meth c ls X K hr hk hl hw
  exact w_M_inLog fz x1 h _ rfl hp X K hr hk hl hw
set_option maxHeartbeats 4000000 in
set_option maxRecDepth 100000 in
theorem w_M_idle_4 (X : CallFix p m c b_M_idle 4 s args TB R_M) (K : KK D cI cZ s) (hr : meth.sig.returnType = (some .int)) (hk : meth.locks = false) (fz : Nat) : ∀ (fu : Nat) (x1 : Int32) (x2 : Int32) (x3 : Int32) (h : HH) (ρ : Int32) (_ : B_M_idle_4 fz fu x1 x2 x3 h = ρ) (_ : P_M_idle_4 fz fu x1 x2 x3 h) {ls : Array Slot} {H : Heap} {locs : List Loc} (_ : Lc ls 4 [some (.ref (ad 27)), some (.int x1), some (.int x2), some (.int x3)]) (_ : Hw D cI cZ base ad s shape h H locs), W p l e (rmD 1 25) s m args below meth c H locs 0 0 (MQ below (Qw D cI cZ base ad (pI h ρ)) args s 0 0 (fun q => base ≤ q)) (F0 m 4 ls []) := by
  intro fu
  induction fu with
  | zero =>
    intro x1 x2 x3 h ρ hρ hp ls H locs hl hw
    exact hp.elim
  | succ fu ih =>
    intro x1 x2 x3 h ρ hρ hp ls H locs hl hw
    rw [B_M_idle_4] at hρ
    rw [P_M_idle_4] at hp
    refine lv_iload_n X.1 X.2.1 d_M_idle_4 rfl (hl.at 3 rfl) ?_
    refine lv_bipush (v := (8 : Int32)) X.1 X.2.1 d_M_idle_5 (by decide) ?_
    refine lv_icmp_ge (tgt := 77) X.1 X.2.1 d_M_idle_7 (by decide) (fun g => ?_) (fun g => ?_)
    · rw [if_pos g] at hρ
      have hp := hp.1 g
      refine lv_iload_n X.1 X.2.1 d_M_idle_77 rfl (hl.at 2 rfl) ?_
      exact r_iret X hr hk hw ⟨congrArg (fun z => some (Value.int z)) hρ, rfl⟩ d_M_idle_78
    · rw [if_neg g] at hρ
      have hp := hp.2 g
      refine lv_aload_n X.1 X.2.1 d_M_idle_10 rfl (hl.at 0 rfl) ?_
      refine r_getr (j := 36) X K hw fg_M_35 rfl rfl d_M_idle_11 ?_
      refine lv_bipush (v := (8 : Int32)) X.1 X.2.1 d_M_idle_14 (by decide) ?_
      refine lv_iload_n X.1 X.2.1 d_M_idle_16 rfl (hl.at 1 rfl) ?_
      refine lv_imul X.1 X.2.1 d_M_idle_17 ?_
      refine lv_iload_n X.1 X.2.1 d_M_idle_18 rfl (hl.at 3 rfl) ?_
      refine lv_iadd X.1 X.2.1 d_M_idle_19 ?_
      refine r_aldz X K hw rfl hp.1 d_M_idle_20 ?_
      have hp := hp.2
      refine lv_if_eq (tgt := 71) X.1 X.2.1 d_M_idle_21 (by decide) (fun g => ?_) (fun g => ?_)
      · rw [if_pos g] at hρ
        have hp := hp.1 g
        refine lv_iincL X.1 X.2.1 hl (v := (x3 + 1)) d_M_idle_71 rfl (congrArg (fun z => x3 + z) (by decide)) (by decide) (fun ls hl => ?_)
        have hl : Lc ls 4 [some (.ref (ad 27)), some (.int x1), some (.int x2), some (.int (x3 + 1))] := hl
        refine lv_goto (tgt := 4) X.1 X.2.1 d_M_idle_74 (by decide) ?_
        exact ih x1 x2 (x3 + 1) h ρ hρ hp hl hw
      · rw [if_neg g] at hρ
        have hp := hp.2 g
        refine lv_aload_n X.1 X.2.1 d_M_idle_24 rfl (hl.at 0 rfl) ?_
        refine lv_iload_n X.1 X.2.1 d_M_idle_25 rfl (hl.at 1 rfl) ?_
        refine lv_iconst (v := (4 : Int32)) X.1 X.2.1 d_M_idle_26 (by decide) ?_
        refine lv_iload_n X.1 X.2.1 d_M_idle_27 rfl (hl.at 3 rfl) ?_
        refine lv_imul X.1 X.2.1 d_M_idle_28 ?_
        refine lv_iconst (v := (4 : Int32)) X.1 X.2.1 d_M_idle_29 (by decide) ?_
        refine lv_iload_n X.1 X.2.1 d_M_idle_30 rfl (hl.at 3 rfl) ?_
        refine lv_imul X.1 X.2.1 d_M_idle_31 ?_
        refine lv_iconst (v := (3 : Int32)) X.1 X.2.1 d_M_idle_32 (by decide) ?_
        refine lv_iadd X.1 X.2.1 d_M_idle_33 ?_
        refine r_callV (rest := []) X K hw hl.1 mf_M_90 rfl rfl rfl (c_M_pending l D cI cZ base ad fz x1 ((4 : Int32) * x3) (((4 : Int32) * x3) + (3 : Int32)) h hp.1) (by decide) ⟨Nat.le_refl _, Nat.le_refl _⟩ rfl rfl (Nat.le_of_ble_eq_true rfl) d_M_idle_34 (fun v h' H locs q hw => ?_)
        obtain ⟨rfl, rfl⟩ := q
        have hp := hp.2
        refine lv_if_ne (tgt := 71) X.1 X.2.1 d_M_idle_37 (by decide) (fun g => ?_) (fun g => ?_)
        · rw [if_neg g] at hρ
          have hp := hp.2 g
          refine lv_iincL X.1 X.2.1 hl (v := (x3 + 1)) d_M_idle_71 rfl (congrArg (fun z => x3 + z) (by decide)) (by decide) (fun ls hl => ?_)
          have hl : Lc ls 4 [some (.ref (ad 27)), some (.int x1), some (.int x2), some (.int (x3 + 1))] := hl
          refine lv_goto (tgt := 4) X.1 X.2.1 d_M_idle_74 (by decide) ?_
          exact ih x1 x2 (x3 + 1) h ρ hρ hp hl hw
        · rw [if_pos g] at hρ
          have hp := hp.1 g
          refine lv_iload_n X.1 X.2.1 d_M_idle_40 rfl (hl.at 2 rfl) ?_
          refine lv_if_lt (tgt := 69) X.1 X.2.1 d_M_idle_41 (by decide) (fun g => ?_) (fun g => ?_)
          · rw [if_pos g] at hρ
            have hp := hp.1 g
            refine lv_iload_n X.1 X.2.1 d_M_idle_69 rfl (hl.at 3 rfl) ?_
            refine r_istore_n X hl d_M_idle_70 rfl (by decide) (fun ls hl => ?_)
            have hl : Lc ls 4 [some (.ref (ad 27)), some (.int x1), some (.int x3), some (.int x3)] := hl
            refine lv_iincL X.1 X.2.1 hl (v := (x3 + 1)) d_M_idle_71 rfl (congrArg (fun z => x3 + z) (by decide)) (by decide) (fun ls hl => ?_)
            have hl : Lc ls 4 [some (.ref (ad 27)), some (.int x1), some (.int x3), some (.int (x3 + 1))] := hl
            refine lv_goto (tgt := 4) X.1 X.2.1 d_M_idle_74 (by decide) ?_
            exact ih x1 x3 (x3 + 1) h ρ hρ hp hl hw
          · rw [if_neg g] at hρ
            have hp := hp.2 g
            refine lv_aload_n X.1 X.2.1 d_M_idle_44 rfl (hl.at 0 rfl) ?_
            refine r_getr (j := 37) X K hw fg_M_38 rfl rfl d_M_idle_45 ?_
            refine lv_bipush (v := (8 : Int32)) X.1 X.2.1 d_M_idle_48 (by decide) ?_
            refine lv_iload_n X.1 X.2.1 d_M_idle_50 rfl (hl.at 1 rfl) ?_
            refine lv_imul X.1 X.2.1 d_M_idle_51 ?_
            refine lv_iload_n X.1 X.2.1 d_M_idle_52 rfl (hl.at 3 rfl) ?_
            refine lv_iadd X.1 X.2.1 d_M_idle_53 ?_
            refine r_ald X K hw rfl hp.1 d_M_idle_54 ?_
            have hp := hp.2
            refine lv_aload_n X.1 X.2.1 d_M_idle_55 rfl (hl.at 0 rfl) ?_
            refine r_getr (j := 37) X K hw fg_M_38 rfl rfl d_M_idle_56 ?_
            refine lv_bipush (v := (8 : Int32)) X.1 X.2.1 d_M_idle_59 (by decide) ?_
            refine lv_iload_n X.1 X.2.1 d_M_idle_61 rfl (hl.at 1 rfl) ?_
            refine lv_imul X.1 X.2.1 d_M_idle_62 ?_
            refine lv_iload_n X.1 X.2.1 d_M_idle_63 rfl (hl.at 2 rfl) ?_
            refine lv_iadd X.1 X.2.1 d_M_idle_64 ?_
            refine r_ald X K hw rfl hp.1 d_M_idle_65 ?_
            have hp := hp.2
            refine lv_icmp_ge (tgt := 71) X.1 X.2.1 d_M_idle_66 (by decide) (fun g => ?_) (fun g => ?_)
            · rw [if_pos g] at hρ
              have hp := hp.1 g
              refine lv_iincL X.1 X.2.1 hl (v := (x3 + 1)) d_M_idle_71 rfl (congrArg (fun z => x3 + z) (by decide)) (by decide) (fun ls hl => ?_)
              have hl : Lc ls 4 [some (.ref (ad 27)), some (.int x1), some (.int x2), some (.int (x3 + 1))] := hl
              refine lv_goto (tgt := 4) X.1 X.2.1 d_M_idle_74 (by decide) ?_
              exact ih x1 x2 (x3 + 1) h ρ hρ hp hl hw
            · rw [if_neg g] at hρ
              have hp := hp.2 g
              refine lv_iload_n X.1 X.2.1 d_M_idle_69 rfl (hl.at 3 rfl) ?_
              refine r_istore_n X hl d_M_idle_70 rfl (by decide) (fun ls hl => ?_)
              have hl : Lc ls 4 [some (.ref (ad 27)), some (.int x1), some (.int x3), some (.int x3)] := hl
              refine lv_iincL X.1 X.2.1 hl (v := (x3 + 1)) d_M_idle_71 rfl (congrArg (fun z => x3 + z) (by decide)) (by decide) (fun ls hl => ?_)
              have hl : Lc ls 4 [some (.ref (ad 27)), some (.int x1), some (.int x3), some (.int (x3 + 1))] := hl
              refine lv_goto (tgt := 4) X.1 X.2.1 d_M_idle_74 (by decide) ?_
              exact ih x1 x3 (x3 + 1) h ρ hρ hp hl hw
set_option maxHeartbeats 4000000 in
set_option maxRecDepth 100000 in
theorem w_M_idle (fz : Nat) (x1 : Int32) (h : HH) (ρ : Int32) (hρ : B_M_idle fz x1 h = ρ) (hp : P_M_idle fz x1 h) (X : CallFix p m c b_M_idle 4 s args TB R_M) (K : KK D cI cZ s) (hr : meth.sig.returnType = (some .int)) (hk : meth.locks = false) {ls : Array Slot} {H : Heap} {locs : List Loc} (hl : Lc ls 4 [some (.ref (ad 27)), some (.int x1), none, none]) (hw : Hw D cI cZ base ad s shape h H locs) : W p l e (rmD 1 25) s m args below meth c H locs 0 0 (MQ below (Qw D cI cZ base ad (pI h ρ)) args s 0 0 (fun q => base ≤ q)) (F0 m 0 ls []) := by
  unfold B_M_idle at hρ
  unfold P_M_idle at hp
  refine lv_iconst (v := (-1 : Int32)) X.1 X.2.1 d_M_idle_0 (by decide) ?_
  refine r_istore_n X hl d_M_idle_1 rfl (by decide) (fun ls hl => ?_)
  have hl : Lc ls 4 [some (.ref (ad 27)), some (.int x1), some (.int (-1 : Int32)), none] := hl
  refine lv_iconst (v := (0 : Int32)) X.1 X.2.1 d_M_idle_2 (by decide) ?_
  refine r_istore_n X hl d_M_idle_3 rfl (by decide) (fun ls hl => ?_)
  have hl : Lc ls 4 [some (.ref (ad 27)), some (.int x1), some (.int (-1 : Int32)), some (.int (0 : Int32))] := hl
  exact w_M_idle_4 X K hr hk fz fz x1 (-1 : Int32) (0 : Int32) h ρ hρ hp hl hw
set_option maxRecDepth 100000 in
theorem c_M_idle (l : Launch) (D : va_G) (cI cZ : ClassId) (base : Nat) (ad : Nat → Nat) (fz : Nat) (x1 : Int32) (h : HH) (hp : P_M_idle fz x1 h) : Ct l D cI cZ base ad y_M_idle b_M_idle 4 (some .int) 1 25 [.ref (ad 27), .int x1] h (pI h (B_M_idle fz x1 h)) := by
  refine Ct.of (by decide) (Nat.le_of_ble_eq_true rfl) (cat_ok rfl) ?_
  intro p e s m args below meth c ls X K hr hk hl hw
  exact w_M_idle fz x1 h _ rfl hp X K hr hk hl hw
set_option maxHeartbeats 4000000 in
set_option maxRecDepth 100000 in
theorem w_M_nothingInMap_4 (X : CallFix p m c b_M_nothingInMap 4 s args TB R_M) (K : KK D cI cZ s) (hr : meth.sig.returnType = (some .boolean)) (hk : meth.locks = false) (fz : Nat) : ∀ (fu : Nat) (x1 : Int32) (x2 : Int32) (x3 : Int32) (h : HH) (ρ : Int32) (_ : B_M_nothingInMap_4 fz fu x1 x2 x3 h = ρ) (_ : P_M_nothingInMap_4 fz fu x1 x2 x3 h) {ls : Array Slot} {H : Heap} {locs : List Loc} (_ : Lc ls 4 [some (.ref (ad 27)), some (.int x1), some (.int x2), some (.int x3)]) (_ : Hw D cI cZ base ad s shape h H locs), W p l e (rmD 0 0) s m args below meth c H locs 0 0 (MQ below (Qw D cI cZ base ad (pI h ρ)) args s 0 0 (fun q => base ≤ q)) (F0 m 4 ls []) := by
  intro fu
  induction fu with
  | zero =>
    intro x1 x2 x3 h ρ hρ hp ls H locs hl hw
    exact hp.elim
  | succ fu ih =>
    intro x1 x2 x3 h ρ hρ hp ls H locs hl hw
    rw [B_M_nothingInMap_4] at hρ
    rw [P_M_nothingInMap_4] at hp
    refine lv_iload_n X.1 X.2.1 d_M_nothingInMap_4 rfl (hl.at 3 rfl) ?_
    refine lv_bipush (v := (32 : Int32)) X.1 X.2.1 d_M_nothingInMap_5 (by decide) ?_
    refine lv_icmp_ge (tgt := 40) X.1 X.2.1 d_M_nothingInMap_7 (by decide) (fun g => ?_) (fun g => ?_)
    · rw [if_pos g] at hρ
      have hp := hp.1 g
      refine lv_iload_n X.1 X.2.1 d_M_nothingInMap_40 rfl (hl.at 2 rfl) ?_
      exact r_zret X hr hk hw hp ⟨congrArg (fun z => some (Value.int z)) hρ, rfl⟩ d_M_nothingInMap_41
    · rw [if_neg g] at hρ
      have hp := hp.2 g
      refine lv_iload_n X.1 X.2.1 d_M_nothingInMap_10 rfl (hl.at 2 rfl) ?_
      refine lv_if_eq (tgt := 32) X.1 X.2.1 d_M_nothingInMap_11 (by decide) (fun g => ?_) (fun g => ?_)
      · rw [if_pos g] at hρ
        have hp := hp.1 g
        refine lv_iconst (v := (0 : Int32)) X.1 X.2.1 d_M_nothingInMap_32 (by decide) ?_
        refine r_istore_n X hl d_M_nothingInMap_33 rfl (by decide) (fun ls hl => ?_)
        have hl : Lc ls 4 [some (.ref (ad 27)), some (.int x1), some (.int (0 : Int32)), some (.int x3)] := hl
        refine lv_iincL X.1 X.2.1 hl (v := (x3 + 1)) d_M_nothingInMap_34 rfl (congrArg (fun z => x3 + z) (by decide)) (by decide) (fun ls hl => ?_)
        have hl : Lc ls 4 [some (.ref (ad 27)), some (.int x1), some (.int (0 : Int32)), some (.int (x3 + 1))] := hl
        refine lv_goto (tgt := 4) X.1 X.2.1 d_M_nothingInMap_37 (by decide) ?_
        exact ih x1 (0 : Int32) (x3 + 1) h ρ hρ hp hl hw
      · rw [if_neg g] at hρ
        have hp := hp.2 g
        refine lv_aload_n X.1 X.2.1 d_M_nothingInMap_14 rfl (hl.at 0 rfl) ?_
        refine r_getr (j := 35) X K hw fg_M_32 rfl rfl d_M_nothingInMap_15 ?_
        refine lv_bipush (v := (32 : Int32)) X.1 X.2.1 d_M_nothingInMap_18 (by decide) ?_
        refine lv_iload_n X.1 X.2.1 d_M_nothingInMap_20 rfl (hl.at 1 rfl) ?_
        refine lv_imul X.1 X.2.1 d_M_nothingInMap_21 ?_
        refine lv_iload_n X.1 X.2.1 d_M_nothingInMap_22 rfl (hl.at 3 rfl) ?_
        refine lv_iadd X.1 X.2.1 d_M_nothingInMap_23 ?_
        refine r_aldz X K hw rfl hp.1 d_M_nothingInMap_24 ?_
        have hp := hp.2
        refine lv_if_ne (tgt := 32) X.1 X.2.1 d_M_nothingInMap_25 (by decide) (fun g => ?_) (fun g => ?_)
        · rw [if_neg g] at hρ
          have hp := hp.2 g
          refine lv_iconst (v := (0 : Int32)) X.1 X.2.1 d_M_nothingInMap_32 (by decide) ?_
          refine r_istore_n X hl d_M_nothingInMap_33 rfl (by decide) (fun ls hl => ?_)
          have hl : Lc ls 4 [some (.ref (ad 27)), some (.int x1), some (.int (0 : Int32)), some (.int x3)] := hl
          refine lv_iincL X.1 X.2.1 hl (v := (x3 + 1)) d_M_nothingInMap_34 rfl (congrArg (fun z => x3 + z) (by decide)) (by decide) (fun ls hl => ?_)
          have hl : Lc ls 4 [some (.ref (ad 27)), some (.int x1), some (.int (0 : Int32)), some (.int (x3 + 1))] := hl
          refine lv_goto (tgt := 4) X.1 X.2.1 d_M_nothingInMap_37 (by decide) ?_
          exact ih x1 (0 : Int32) (x3 + 1) h ρ hρ hp hl hw
        · rw [if_pos g] at hρ
          have hp := hp.1 g
          refine lv_iconst (v := (1 : Int32)) X.1 X.2.1 d_M_nothingInMap_28 (by decide) ?_
          refine lv_goto (tgt := 33) X.1 X.2.1 d_M_nothingInMap_29 (by decide) ?_
          refine r_istore_n X hl d_M_nothingInMap_33 rfl (by decide) (fun ls hl => ?_)
          have hl : Lc ls 4 [some (.ref (ad 27)), some (.int x1), some (.int (1 : Int32)), some (.int x3)] := hl
          refine lv_iincL X.1 X.2.1 hl (v := (x3 + 1)) d_M_nothingInMap_34 rfl (congrArg (fun z => x3 + z) (by decide)) (by decide) (fun ls hl => ?_)
          have hl : Lc ls 4 [some (.ref (ad 27)), some (.int x1), some (.int (1 : Int32)), some (.int (x3 + 1))] := hl
          refine lv_goto (tgt := 4) X.1 X.2.1 d_M_nothingInMap_37 (by decide) ?_
          exact ih x1 (1 : Int32) (x3 + 1) h ρ hρ hp hl hw
set_option maxHeartbeats 4000000 in
set_option maxRecDepth 100000 in
theorem w_M_nothingInMap (fz : Nat) (x1 : Int32) (h : HH) (ρ : Int32) (hρ : B_M_nothingInMap fz x1 h = ρ) (hp : P_M_nothingInMap fz x1 h) (X : CallFix p m c b_M_nothingInMap 4 s args TB R_M) (K : KK D cI cZ s) (hr : meth.sig.returnType = (some .boolean)) (hk : meth.locks = false) {ls : Array Slot} {H : Heap} {locs : List Loc} (hl : Lc ls 4 [some (.ref (ad 27)), some (.int x1), none, none]) (hw : Hw D cI cZ base ad s shape h H locs) : W p l e (rmD 0 0) s m args below meth c H locs 0 0 (MQ below (Qw D cI cZ base ad (pI h ρ)) args s 0 0 (fun q => base ≤ q)) (F0 m 0 ls []) := by
  unfold B_M_nothingInMap at hρ
  unfold P_M_nothingInMap at hp
  refine lv_iconst (v := (1 : Int32)) X.1 X.2.1 d_M_nothingInMap_0 (by decide) ?_
  refine r_istore_n X hl d_M_nothingInMap_1 rfl (by decide) (fun ls hl => ?_)
  have hl : Lc ls 4 [some (.ref (ad 27)), some (.int x1), some (.int (1 : Int32)), none] := hl
  refine lv_iconst (v := (0 : Int32)) X.1 X.2.1 d_M_nothingInMap_2 (by decide) ?_
  refine r_istore_n X hl d_M_nothingInMap_3 rfl (by decide) (fun ls hl => ?_)
  have hl : Lc ls 4 [some (.ref (ad 27)), some (.int x1), some (.int (1 : Int32)), some (.int (0 : Int32))] := hl
  exact w_M_nothingInMap_4 X K hr hk fz fz x1 (1 : Int32) (0 : Int32) h ρ hρ hp hl hw
set_option maxRecDepth 100000 in
theorem c_M_nothingInMap (l : Launch) (D : va_G) (cI cZ : ClassId) (base : Nat) (ad : Nat → Nat) (fz : Nat) (x1 : Int32) (h : HH) (hp : P_M_nothingInMap fz x1 h) : Ct l D cI cZ base ad y_M_nothingInMap b_M_nothingInMap 4 (some .boolean) 0 0 [.ref (ad 27), .int x1] h (pI h (B_M_nothingInMap fz x1 h)) := by
  refine Ct.of (by decide) (Nat.le_of_ble_eq_true rfl) (cat_ok rfl) ?_
  intro p e s m args below meth c ls X K hr hk hl hw
  exact w_M_nothingInMap fz x1 h _ rfl hp X K hr hk hl hw
set_option maxHeartbeats 4000000 in
set_option maxRecDepth 100000 in
theorem w_M_onTheWay_9 (X : CallFix p m c b_M_onTheWay 6 s args TB R_M) (K : KK D cI cZ s) (hr : meth.sig.returnType = (some .int)) (hk : meth.locks = false) (fz : Nat) : ∀ (fu : Nat) (x1 : Int32) (x2 : Int32) (x3 : Int32) (x4 : Int32) (x5 : Int32) (h : HH) (ρ : Int32) (_ : B_M_onTheWay_9 fz fu x1 x2 x3 x4 x5 h = ρ) (_ : P_M_onTheWay_9 fz fu x1 x2 x3 x4 x5 h) {ls : Array Slot} {H : Heap} {locs : List Loc} (_ : Lc ls 6 [some (.ref (ad 27)), some (.int x1), some (.int x2), some (.int x3), some (.int x4), some (.int x5)]) (_ : Hw D cI cZ base ad s shape h H locs), W p l e (rmD 0 0) s m args below meth c H locs 0 0 (MQ below (Qw D cI cZ base ad (pI h ρ)) args s 0 0 (fun q => base ≤ q)) (F0 m 9 ls []) := by
  intro fu
  induction fu with
  | zero =>
    intro x1 x2 x3 x4 x5 h ρ hρ hp ls H locs hl hw
    exact hp.elim
  | succ fu ih =>
    intro x1 x2 x3 x4 x5 h ρ hρ hp ls H locs hl hw
    rw [B_M_onTheWay_9] at hρ
    rw [P_M_onTheWay_9] at hp
    refine lv_iload X.1 X.2.1 d_M_onTheWay_9 (hl.at 5 rfl) ?_
    refine lv_bipush (v := (64 : Int32)) X.1 X.2.1 d_M_onTheWay_11 (by decide) ?_
    refine lv_iload_n X.1 X.2.1 d_M_onTheWay_13 rfl (hl.at 1 rfl) ?_
    refine lv_imul X.1 X.2.1 d_M_onTheWay_14 ?_
    refine lv_aload_n X.1 X.2.1 d_M_onTheWay_15 rfl (hl.at 0 rfl) ?_
    refine r_getr (j := 51) X K hw fg_M_84 rfl rfl d_M_onTheWay_16 ?_
    refine lv_iload_n X.1 X.2.1 d_M_onTheWay_19 rfl (hl.at 1 rfl) ?_
    refine r_ald X K hw rfl hp.1 d_M_onTheWay_20 ?_
    have hp := hp.2
    refine lv_iadd X.1 X.2.1 d_M_onTheWay_21 ?_
    refine lv_icmp_ge (tgt := 60) X.1 X.2.1 d_M_onTheWay_22 (by decide) (fun g => ?_) (fun g => ?_)
    · rw [if_pos g] at hρ
      have hp := hp.1 g
      refine lv_iload X.1 X.2.1 d_M_onTheWay_60 (hl.at 4 rfl) ?_
      exact r_iret X hr hk hw ⟨congrArg (fun z => some (Value.int z)) hρ, rfl⟩ d_M_onTheWay_62
    · rw [if_neg g] at hρ
      have hp := hp.2 g
      refine lv_aload_n X.1 X.2.1 d_M_onTheWay_25 rfl (hl.at 0 rfl) ?_
      refine r_getr (j := 48) X K hw fg_M_75 rfl rfl d_M_onTheWay_26 ?_
      refine lv_iload X.1 X.2.1 d_M_onTheWay_29 (hl.at 5 rfl) ?_
      refine r_ald X K hw rfl hp.1 d_M_onTheWay_31 ?_
      have hp := hp.2
      refine lv_iload_n X.1 X.2.1 d_M_onTheWay_32 rfl (hl.at 2 rfl) ?_
      refine lv_icmp_ne (tgt := 54) X.1 X.2.1 d_M_onTheWay_33 (by decide) (fun g => ?_) (fun g => ?_)
      · rw [if_neg g] at hρ
        have hp := hp.2 g
        refine lv_iincL X.1 X.2.1 hl (v := (x5 + 1)) d_M_onTheWay_54 rfl (congrArg (fun z => x5 + z) (by decide)) (by decide) (fun ls hl => ?_)
        have hl : Lc ls 6 [some (.ref (ad 27)), some (.int x1), some (.int x2), some (.int x3), some (.int x4), some (.int (x5 + 1))] := hl
        refine lv_goto (tgt := 9) X.1 X.2.1 d_M_onTheWay_57 (by decide) ?_
        exact ih x1 x2 x3 x4 (x5 + 1) h ρ hρ hp hl hw
      · rw [if_pos g] at hρ
        have hp := hp.1 g
        refine lv_iload_n X.1 X.2.1 d_M_onTheWay_36 rfl (hl.at 3 rfl) ?_
        refine lv_if_lt (tgt := 51) X.1 X.2.1 d_M_onTheWay_37 (by decide) (fun g => ?_) (fun g => ?_)
        · rw [if_pos g] at hρ
          have hp := hp.1 g
          refine lv_iincL X.1 X.2.1 hl (v := (x4 + 1)) d_M_onTheWay_51 rfl (congrArg (fun z => x4 + z) (by decide)) (by decide) (fun ls hl => ?_)
          have hl : Lc ls 6 [some (.ref (ad 27)), some (.int x1), some (.int x2), some (.int x3), some (.int (x4 + 1)), some (.int x5)] := hl
          refine lv_iincL X.1 X.2.1 hl (v := (x5 + 1)) d_M_onTheWay_54 rfl (congrArg (fun z => x5 + z) (by decide)) (by decide) (fun ls hl => ?_)
          have hl : Lc ls 6 [some (.ref (ad 27)), some (.int x1), some (.int x2), some (.int x3), some (.int (x4 + 1)), some (.int (x5 + 1))] := hl
          refine lv_goto (tgt := 9) X.1 X.2.1 d_M_onTheWay_57 (by decide) ?_
          exact ih x1 x2 x3 (x4 + 1) (x5 + 1) h ρ hρ hp hl hw
        · rw [if_neg g] at hρ
          have hp := hp.2 g
          refine lv_aload_n X.1 X.2.1 d_M_onTheWay_40 rfl (hl.at 0 rfl) ?_
          refine r_getr (j := 49) X K hw fg_M_78 rfl rfl d_M_onTheWay_41 ?_
          refine lv_iload X.1 X.2.1 d_M_onTheWay_44 (hl.at 5 rfl) ?_
          refine r_ald X K hw rfl hp.1 d_M_onTheWay_46 ?_
          have hp := hp.2
          refine lv_iload_n X.1 X.2.1 d_M_onTheWay_47 rfl (hl.at 3 rfl) ?_
          refine lv_icmp_ne (tgt := 54) X.1 X.2.1 d_M_onTheWay_48 (by decide) (fun g => ?_) (fun g => ?_)
          · rw [if_neg g] at hρ
            have hp := hp.2 g
            refine lv_iincL X.1 X.2.1 hl (v := (x5 + 1)) d_M_onTheWay_54 rfl (congrArg (fun z => x5 + z) (by decide)) (by decide) (fun ls hl => ?_)
            have hl : Lc ls 6 [some (.ref (ad 27)), some (.int x1), some (.int x2), some (.int x3), some (.int x4), some (.int (x5 + 1))] := hl
            refine lv_goto (tgt := 9) X.1 X.2.1 d_M_onTheWay_57 (by decide) ?_
            exact ih x1 x2 x3 x4 (x5 + 1) h ρ hρ hp hl hw
          · rw [if_pos g] at hρ
            have hp := hp.1 g
            refine lv_iincL X.1 X.2.1 hl (v := (x4 + 1)) d_M_onTheWay_51 rfl (congrArg (fun z => x4 + z) (by decide)) (by decide) (fun ls hl => ?_)
            have hl : Lc ls 6 [some (.ref (ad 27)), some (.int x1), some (.int x2), some (.int x3), some (.int (x4 + 1)), some (.int x5)] := hl
            refine lv_iincL X.1 X.2.1 hl (v := (x5 + 1)) d_M_onTheWay_54 rfl (congrArg (fun z => x5 + z) (by decide)) (by decide) (fun ls hl => ?_)
            have hl : Lc ls 6 [some (.ref (ad 27)), some (.int x1), some (.int x2), some (.int x3), some (.int (x4 + 1)), some (.int (x5 + 1))] := hl
            refine lv_goto (tgt := 9) X.1 X.2.1 d_M_onTheWay_57 (by decide) ?_
            exact ih x1 x2 x3 (x4 + 1) (x5 + 1) h ρ hρ hp hl hw
set_option maxHeartbeats 4000000 in
set_option maxRecDepth 100000 in
theorem w_M_onTheWay (fz : Nat) (x1 : Int32) (x2 : Int32) (x3 : Int32) (h : HH) (ρ : Int32) (hρ : B_M_onTheWay fz x1 x2 x3 h = ρ) (hp : P_M_onTheWay fz x1 x2 x3 h) (X : CallFix p m c b_M_onTheWay 6 s args TB R_M) (K : KK D cI cZ s) (hr : meth.sig.returnType = (some .int)) (hk : meth.locks = false) {ls : Array Slot} {H : Heap} {locs : List Loc} (hl : Lc ls 6 [some (.ref (ad 27)), some (.int x1), some (.int x2), some (.int x3), none, none]) (hw : Hw D cI cZ base ad s shape h H locs) : W p l e (rmD 0 0) s m args below meth c H locs 0 0 (MQ below (Qw D cI cZ base ad (pI h ρ)) args s 0 0 (fun q => base ≤ q)) (F0 m 0 ls []) := by
  unfold B_M_onTheWay at hρ
  unfold P_M_onTheWay at hp
  refine lv_iconst (v := (0 : Int32)) X.1 X.2.1 d_M_onTheWay_0 (by decide) ?_
  refine r_istore X hl d_M_onTheWay_1 (by decide) (fun ls hl => ?_)
  have hl : Lc ls 6 [some (.ref (ad 27)), some (.int x1), some (.int x2), some (.int x3), some (.int (0 : Int32)), none] := hl
  refine lv_bipush (v := (64 : Int32)) X.1 X.2.1 d_M_onTheWay_3 (by decide) ?_
  refine lv_iload_n X.1 X.2.1 d_M_onTheWay_5 rfl (hl.at 1 rfl) ?_
  refine lv_imul X.1 X.2.1 d_M_onTheWay_6 ?_
  refine r_istore X hl d_M_onTheWay_7 (by decide) (fun ls hl => ?_)
  have hl : Lc ls 6 [some (.ref (ad 27)), some (.int x1), some (.int x2), some (.int x3), some (.int (0 : Int32)), some (.int ((64 : Int32) * x1))] := hl
  exact w_M_onTheWay_9 X K hr hk fz fz x1 x2 x3 (0 : Int32) ((64 : Int32) * x1) h ρ hρ hp hl hw
set_option maxRecDepth 100000 in
theorem c_M_onTheWay (l : Launch) (D : va_G) (cI cZ : ClassId) (base : Nat) (ad : Nat → Nat) (fz : Nat) (x1 : Int32) (x2 : Int32) (x3 : Int32) (h : HH) (hp : P_M_onTheWay fz x1 x2 x3 h) : Ct l D cI cZ base ad y_M_onTheWay b_M_onTheWay 6 (some .int) 0 0 [.ref (ad 27), .int x1, .int x2, .int x3] h (pI h (B_M_onTheWay fz x1 x2 x3 h)) := by
  refine Ct.of (by decide) (Nat.le_of_ble_eq_true rfl) (cat_ok rfl) ?_
  intro p e s m args below meth c ls X K hr hk hl hw
  exact w_M_onTheWay fz x1 x2 x3 h _ rfl hp X K hr hk hl hw
set_option maxHeartbeats 4000000 in
set_option maxRecDepth 100000 in
theorem w_M_underWay (fz : Nat) (x1 : Int32) (x2 : Int32) (h : HH) (ρ : Int32) (hρ : B_M_underWay fz x1 x2 h = ρ) (hp : P_M_underWay fz x1 x2 h) (X : CallFix p m c b_M_underWay 3 s args TB R_M) (K : KK D cI cZ s) (hr : meth.sig.returnType = (some .int)) (hk : meth.locks = false) {ls : Array Slot} {H : Heap} {locs : List Loc} (hl : Lc ls 3 [some (.ref (ad 27)), some (.int x1), some (.int x2)]) (hw : Hw D cI cZ base ad s shape h H locs) : W p l e (rmD 1 25) s m args below meth c H locs 0 0 (MQ below (Qw D cI cZ base ad (pI h ρ)) args s 0 0 (fun q => base ≤ q)) (F0 m 0 ls []) := by
  unfold B_M_underWay at hρ
  unfold P_M_underWay at hp
  refine lv_aload_n X.1 X.2.1 d_M_underWay_0 rfl (hl.at 0 rfl) ?_
  refine lv_iload_n X.1 X.2.1 d_M_underWay_1 rfl (hl.at 1 rfl) ?_
  refine lv_iconst (v := (3 : Int32)) X.1 X.2.1 d_M_underWay_2 (by decide) ?_
  refine lv_iload_n X.1 X.2.1 d_M_underWay_3 rfl (hl.at 2 rfl) ?_
  refine r_callV (rest := []) X K hw hl.1 mf_M_94 rfl rfl rfl (c_M_onTheWay l D cI cZ base ad fz x1 (3 : Int32) x2 h hp.1) (by decide) ⟨Nat.le_refl _, Nat.le_refl _⟩ rfl rfl (Nat.le_of_ble_eq_true rfl) d_M_underWay_4 (fun v h' H locs q hw => ?_)
  obtain ⟨rfl, rfl⟩ := q
  have hp := hp.2
  refine lv_aload_n X.1 X.2.1 d_M_underWay_7 rfl (hl.at 0 rfl) ?_
  refine lv_iconst (v := (1 : Int32)) X.1 X.2.1 d_M_underWay_8 (by decide) ?_
  refine lv_iload_n X.1 X.2.1 d_M_underWay_9 rfl (hl.at 1 rfl) ?_
  refine lv_isub X.1 X.2.1 d_M_underWay_10 ?_
  refine lv_iconst (v := (4 : Int32)) X.1 X.2.1 d_M_underWay_11 (by decide) ?_
  refine lv_iload_n X.1 X.2.1 d_M_underWay_12 rfl (hl.at 2 rfl) ?_
  refine r_callV (rest := [.int (B_M_onTheWay fz x1 (3 : Int32) x2 h)]) X K hw hl.1 mf_M_94 rfl rfl rfl (c_M_onTheWay l D cI cZ base ad fz ((1 : Int32) - x1) (4 : Int32) x2 h hp.1) (by decide) ⟨Nat.le_refl _, Nat.le_refl _⟩ rfl rfl (Nat.le_of_ble_eq_true rfl) d_M_underWay_13 (fun v h' H locs q hw => ?_)
  obtain ⟨rfl, rfl⟩ := q
  have hp := hp.2
  refine lv_iadd X.1 X.2.1 d_M_underWay_16 ?_
  exact r_iret X hr hk hw ⟨congrArg (fun z => some (Value.int z)) hρ, rfl⟩ d_M_underWay_17
set_option maxRecDepth 100000 in
theorem c_M_underWay (l : Launch) (D : va_G) (cI cZ : ClassId) (base : Nat) (ad : Nat → Nat) (fz : Nat) (x1 : Int32) (x2 : Int32) (h : HH) (hp : P_M_underWay fz x1 x2 h) : Ct l D cI cZ base ad y_M_underWay b_M_underWay 3 (some .int) 1 25 [.ref (ad 27), .int x1, .int x2] h (pI h (B_M_underWay fz x1 x2 h)) := by
  refine Ct.of (by decide) (Nat.le_of_ble_eq_true rfl) (cat_ok rfl) ?_
  intro p e s m args below meth c ls X K hr hk hl hw
  exact w_M_underWay fz x1 x2 h _ rfl hp X K hr hk hl hw
set_option maxHeartbeats 4000000 in
set_option maxRecDepth 100000 in
theorem w_M_send_38 (fz : Nat) (x1 : Int32) (h : HH) (ρ : HH) (hρ : B_M_send_38 fz x1 h = ρ) (hp : P_M_send_38 fz x1 h) (X : CallFix p m c b_M_send 6 s args TB R_M) (K : KK D cI cZ s) (hr : meth.sig.returnType = none) (hk : meth.locks = false) {ls : Array Slot} {H : Heap} {locs : List Loc} (hl : Lc ls 6 [some (.ref (ad 27)), some (.int x1), none, none, none, none]) (hw : Hw D cI cZ base ad s shape h H locs) : W p l e (rmD 0 0) s m args below meth c H locs 0 0 (MQ below (Qw D cI cZ base ad (pH ρ)) args s 0 0 (fun q => base ≤ q)) (F0 m 38 ls []) := by
  unfold B_M_send_38 at hρ
  unfold P_M_send_38 at hp
  refine lv_aload_n X.1 X.2.1 d_M_send_38 rfl (hl.at 0 rfl) ?_
  refine r_getr (j := 51) X K hw fg_M_84 rfl rfl d_M_send_39 ?_
  refine lv_iload_n X.1 X.2.1 d_M_send_42 rfl (hl.at 1 rfl) ?_
  refine lv_dup2_11 X.1 X.2.1 d_M_send_43 rfl rfl ?_
  refine r_ald X K hw rfl hp.1 d_M_send_44 ?_
  have hp := hp.2
  refine lv_iconst (v := (1 : Int32)) X.1 X.2.1 d_M_send_45 (by decide) ?_
  refine lv_iadd X.1 X.2.1 d_M_send_46 ?_
  refine r_ast X K hw rfl hp.1 d_M_send_47 (fun H locs hw => ?_)
  have hp := hp.2
  exact r_vret X hr hk hw ⟨rfl, hρ.symm⟩ d_M_send_48
set_option maxHeartbeats 4000000 in
set_option maxRecDepth 100000 in
theorem w_M_send (fz : Nat) (x1 : Int32) (x2 : Int32) (x3 : Int32) (x4 : Int32) (h : HH) (ρ : HH) (hρ : B_M_send fz x1 x2 x3 x4 h = ρ) (hp : P_M_send fz x1 x2 x3 x4 h) (X : CallFix p m c b_M_send 6 s args TB R_M) (K : KK D cI cZ s) (hr : meth.sig.returnType = none) (hk : meth.locks = false) {ls : Array Slot} {H : Heap} {locs : List Loc} (hl : Lc ls 6 [some (.ref (ad 27)), some (.int x1), some (.int x2), some (.int x3), some (.int x4), none]) (hw : Hw D cI cZ base ad s shape h H locs) : W p l e (rmD 0 0) s m args below meth c H locs 0 0 (MQ below (Qw D cI cZ base ad (pH ρ)) args s 0 0 (fun q => base ≤ q)) (F0 m 0 ls []) := by
  unfold B_M_send at hρ
  unfold P_M_send at hp
  refine lv_bipush (v := (64 : Int32)) X.1 X.2.1 d_M_send_0 (by decide) ?_
  refine lv_iload_n X.1 X.2.1 d_M_send_2 rfl (hl.at 1 rfl) ?_
  refine lv_imul X.1 X.2.1 d_M_send_3 ?_
  refine lv_aload_n X.1 X.2.1 d_M_send_4 rfl (hl.at 0 rfl) ?_
  refine r_getr (j := 51) X K hw fg_M_84 rfl rfl d_M_send_5 ?_
  refine lv_iload_n X.1 X.2.1 d_M_send_8 rfl (hl.at 1 rfl) ?_
  refine r_ald X K hw rfl hp.1 d_M_send_9 ?_
  have hp := hp.2
  refine lv_iadd X.1 X.2.1 d_M_send_10 ?_
  refine r_istore X hl d_M_send_11 (by decide) (fun ls hl => ?_)
  have hl : Lc ls 6 [some (.ref (ad 27)), some (.int x1), some (.int x2), some (.int x3), some (.int x4), some (.int (((64 : Int32) * x1) + (h 51 (ix x1))))] := hl
  refine lv_aload_n X.1 X.2.1 d_M_send_13 rfl (hl.at 0 rfl) ?_
  refine r_getr (j := 48) X K hw fg_M_75 rfl rfl d_M_send_14 ?_
  refine lv_iload X.1 X.2.1 d_M_send_17 (hl.at 5 rfl) ?_
  refine lv_iload_n X.1 X.2.1 d_M_send_19 rfl (hl.at 2 rfl) ?_
  refine r_ast X K hw rfl hp.1 d_M_send_20 (fun H locs hw => ?_)
  have hp := hp.2
  refine lv_aload_n X.1 X.2.1 d_M_send_21 rfl (hl.at 0 rfl) ?_
  refine r_getr (j := 49) X K hw fg_M_78 rfl rfl d_M_send_22 ?_
  refine lv_iload X.1 X.2.1 d_M_send_25 (hl.at 5 rfl) ?_
  refine lv_iload_n X.1 X.2.1 d_M_send_27 rfl (hl.at 3 rfl) ?_
  refine r_ast X K hw rfl hp.1 d_M_send_28 (fun H locs hw => ?_)
  have hp := hp.2
  refine lv_aload_n X.1 X.2.1 d_M_send_29 rfl (hl.at 0 rfl) ?_
  refine r_getr (j := 50) X K hw fg_M_81 rfl rfl d_M_send_30 ?_
  refine lv_iload X.1 X.2.1 d_M_send_33 (hl.at 5 rfl) ?_
  refine lv_iload X.1 X.2.1 d_M_send_35 (hl.at 4 rfl) ?_
  refine r_ast X K hw rfl hp.1 d_M_send_37 (fun H locs hw => ?_)
  have hp := hp.2
  have hl : Lc ls 6 [some (.ref (ad 27)), some (.int x1), none, none, none, none] := hl.mask [true, true, false, false, false, false]
  exact w_M_send_38 fz x1 (u2 (u2 (u2 h 48 (ix (((64 : Int32) * x1) + (h 51 (ix x1)))) x2) 49 (ix (((64 : Int32) * x1) + (h 51 (ix x1)))) x3) 50 (ix (((64 : Int32) * x1) + (h 51 (ix x1)))) x4) ρ hρ hp X K hr hk hl hw
set_option maxRecDepth 100000 in
theorem c_M_send (l : Launch) (D : va_G) (cI cZ : ClassId) (base : Nat) (ad : Nat → Nat) (fz : Nat) (x1 : Int32) (x2 : Int32) (x3 : Int32) (x4 : Int32) (h : HH) (hp : P_M_send fz x1 x2 x3 x4 h) : Ct l D cI cZ base ad y_M_send b_M_send 6 none 0 0 [.ref (ad 27), .int x1, .int x2, .int x3, .int x4] h (pH (B_M_send fz x1 x2 x3 x4 h)) := by
  refine Ct.of (by decide) (Nat.le_of_ble_eq_true rfl) (cat_ok rfl) ?_
  intro p e s m args below meth c ls X K hr hk hl hw
  exact w_M_send fz x1 x2 x3 x4 h _ rfl hp X K hr hk hl hw
set_option maxHeartbeats 4000000 in
set_option maxRecDepth 100000 in
theorem w_M_alone_62 (fz : Nat) (x2 : Int32) (h : HH) (ρ : HH) (hρ : B_M_alone_62 fz x2 h = ρ) (hp : P_M_alone_62 fz x2 h) (X : CallFix p m c b_M_alone 3 s args TB R_M) (K : KK D cI cZ s) (hr : meth.sig.returnType = none) (hk : meth.locks = false) {ls : Array Slot} {H : Heap} {locs : List Loc} (hl : Lc ls 3 [some (.ref (ad 27)), none, some (.int x2)]) (hw : Hw D cI cZ base ad s shape h H locs) : W p l e (rmD 0 0) s m args below meth c H locs 0 0 (MQ below (Qw D cI cZ base ad (pH ρ)) args s 0 0 (fun q => base ≤ q)) (F0 m 62 ls []) := by
  unfold B_M_alone_62 at hρ
  unfold P_M_alone_62 at hp
  refine lv_aload_n X.1 X.2.1 d_M_alone_62 rfl (hl.at 0 rfl) ?_
  refine r_getr (j := 38) X K hw fg_M_41 rfl rfl d_M_alone_63 ?_
  refine lv_iload_n X.1 X.2.1 d_M_alone_66 rfl (hl.at 2 rfl) ?_
  refine lv_aload_n X.1 X.2.1 d_M_alone_67 rfl (hl.at 0 rfl) ?_
  refine r_geti X K hw fg_M_47 rfl rfl d_M_alone_68 ?_
  refine r_ast X K hw rfl hp.1 d_M_alone_71 (fun H locs hw => ?_)
  have hp := hp.2
  exact r_vret X hr hk hw ⟨rfl, hρ.symm⟩ d_M_alone_72
set_option maxHeartbeats 4000000 in
set_option maxRecDepth 100000 in
theorem w_M_alone_52 (fz : Nat) (x2 : Int32) (h : HH) (ρ : HH) (hρ : B_M_alone_52 fz x2 h = ρ) (hp : P_M_alone_52 fz x2 h) (X : CallFix p m c b_M_alone 3 s args TB R_M) (K : KK D cI cZ s) (hr : meth.sig.returnType = none) (hk : meth.locks = false) {ls : Array Slot} {H : Heap} {locs : List Loc} (hl : Lc ls 3 [some (.ref (ad 27)), none, some (.int x2)]) (hw : Hw D cI cZ base ad s shape h H locs) : W p l e (rmD 0 0) s m args below meth c H locs 0 0 (MQ below (Qw D cI cZ base ad (pH ρ)) args s 0 0 (fun q => base ≤ q)) (F0 m 52 ls []) := by
  unfold B_M_alone_52 at hρ
  unfold P_M_alone_52 at hp
  refine lv_aload_n X.1 X.2.1 d_M_alone_52 rfl (hl.at 0 rfl) ?_
  refine lv_dup X.1 X.2.1 d_M_alone_53 rfl ?_
  refine r_geti X K hw fg_M_47 rfl rfl d_M_alone_54 ?_
  refine lv_iconst (v := (1 : Int32)) X.1 X.2.1 d_M_alone_57 (by decide) ?_
  refine lv_iadd X.1 X.2.1 d_M_alone_58 ?_
  refine r_put X K hw fp_M_47 rfl rfl rfl rfl d_M_alone_59 (fun H locs hw => ?_)
  exact w_M_alone_62 fz x2 (u2 h 27 14 ((h 27 14) + (1 : Int32))) ρ hρ hp X K hr hk hl hw
set_option maxHeartbeats 4000000 in
set_option maxRecDepth 100000 in
theorem w_M_alone_31 (fz : Nat) (x2 : Int32) (h : HH) (ρ : HH) (hρ : B_M_alone_31 fz x2 h = ρ) (hp : P_M_alone_31 fz x2 h) (X : CallFix p m c b_M_alone 3 s args TB R_M) (K : KK D cI cZ s) (hr : meth.sig.returnType = none) (hk : meth.locks = false) {ls : Array Slot} {H : Heap} {locs : List Loc} (hl : Lc ls 3 [some (.ref (ad 27)), none, some (.int x2)]) (hw : Hw D cI cZ base ad s shape h H locs) : W p l e (rmD 0 0) s m args below meth c H locs 0 0 (MQ below (Qw D cI cZ base ad (pH ρ)) args s 0 0 (fun q => base ≤ q)) (F0 m 31 ls []) := by
  unfold B_M_alone_31 at hρ
  unfold P_M_alone_31 at hp
  refine lv_aload_n X.1 X.2.1 d_M_alone_31 rfl (hl.at 0 rfl) ?_
  refine r_getr (j := 39) X K hw fg_M_44 rfl rfl d_M_alone_32 ?_
  refine lv_iload_n X.1 X.2.1 d_M_alone_35 rfl (hl.at 2 rfl) ?_
  refine r_ald X K hw rfl hp.1 d_M_alone_36 ?_
  have hp := hp.2
  refine lv_if_ne (tgt := 72) X.1 X.2.1 d_M_alone_37 (by decide) (fun g => ?_) (fun g => ?_)
  · rw [if_neg g] at hρ
    have hp := hp.2 g
    exact r_vret X hr hk hw ⟨rfl, hρ.symm⟩ d_M_alone_72
  · rw [if_pos g] at hρ
    have hp := hp.1 g
    refine lv_aload_n X.1 X.2.1 d_M_alone_40 rfl (hl.at 0 rfl) ?_
    refine r_getr (j := 39) X K hw fg_M_44 rfl rfl d_M_alone_41 ?_
    refine lv_iload_n X.1 X.2.1 d_M_alone_44 rfl (hl.at 2 rfl) ?_
    refine lv_aload_n X.1 X.2.1 d_M_alone_45 rfl (hl.at 0 rfl) ?_
    refine r_getr (j := 38) X K hw fg_M_41 rfl rfl d_M_alone_46 ?_
    refine lv_iload_n X.1 X.2.1 d_M_alone_49 rfl (hl.at 2 rfl) ?_
    refine r_ald X K hw rfl hp.1 d_M_alone_50 ?_
    have hp := hp.2
    refine r_ast X K hw rfl hp.1 d_M_alone_51 (fun H locs hw => ?_)
    have hp := hp.2
    exact w_M_alone_52 fz x2 (u2 h 39 (ix x2) (h 38 (ix x2))) ρ hρ hp X K hr hk hl hw
set_option maxHeartbeats 4000000 in
set_option maxRecDepth 100000 in
theorem w_M_alone_14 (fz : Nat) (x1 : Int32) (x2 : Int32) (h : HH) (ρ : HH) (hρ : B_M_alone_14 fz x1 x2 h = ρ) (hp : P_M_alone_14 fz x1 x2 h) (X : CallFix p m c b_M_alone 3 s args TB R_M) (K : KK D cI cZ s) (hr : meth.sig.returnType = none) (hk : meth.locks = false) {ls : Array Slot} {H : Heap} {locs : List Loc} (hl : Lc ls 3 [some (.ref (ad 27)), some (.int x1), some (.int x2)]) (hw : Hw D cI cZ base ad s shape h H locs) : W p l e (rmD 0 0) s m args below meth c H locs 0 0 (MQ below (Qw D cI cZ base ad (pH ρ)) args s 0 0 (fun q => base ≤ q)) (F0 m 14 ls []) := by
  unfold B_M_alone_14 at hρ
  unfold P_M_alone_14 at hp
  refine lv_aload_n X.1 X.2.1 d_M_alone_14 rfl (hl.at 0 rfl) ?_
  refine r_getr (j := 35) X K hw fg_M_32 rfl rfl d_M_alone_15 ?_
  refine lv_bipush (v := (32 : Int32)) X.1 X.2.1 d_M_alone_18 (by decide) ?_
  refine lv_iload_n X.1 X.2.1 d_M_alone_20 rfl (hl.at 2 rfl) ?_
  refine lv_imul X.1 X.2.1 d_M_alone_21 ?_
  refine lv_aload_n X.1 X.2.1 d_M_alone_22 rfl (hl.at 0 rfl) ?_
  refine r_getr (j := 29) X K hw fg_M_13 rfl rfl d_M_alone_23 ?_
  refine lv_iload_n X.1 X.2.1 d_M_alone_26 rfl (hl.at 1 rfl) ?_
  refine r_ald X K hw rfl hp.1 d_M_alone_27 ?_
  have hp := hp.2
  refine lv_iadd X.1 X.2.1 d_M_alone_28 ?_
  refine lv_iconst (v := (1 : Int32)) X.1 X.2.1 d_M_alone_29 (by decide) ?_
  refine r_astz X K hw rfl hp.1 (by decide) d_M_alone_30 (fun H locs hw => ?_)
  have hp := hp.2
  have hl : Lc ls 3 [some (.ref (ad 27)), none, some (.int x2)] := hl.mask [true, false, true]
  exact w_M_alone_31 fz x2 (u2 h 35 (ix (((32 : Int32) * x2) + (h 29 (ix x1)))) (1 : Int32)) ρ hρ hp X K hr hk hl hw
set_option maxHeartbeats 4000000 in
set_option maxRecDepth 100000 in
theorem w_M_alone (fz : Nat) (x1 : Int32) (h : HH) (ρ : HH) (hρ : B_M_alone fz x1 h = ρ) (hp : P_M_alone fz x1 h) (X : CallFix p m c b_M_alone 3 s args TB R_M) (K : KK D cI cZ s) (hr : meth.sig.returnType = none) (hk : meth.locks = false) {ls : Array Slot} {H : Heap} {locs : List Loc} (hl : Lc ls 3 [some (.ref (ad 27)), some (.int x1), none]) (hw : Hw D cI cZ base ad s shape h H locs) : W p l e (rmD 0 0) s m args below meth c H locs 0 0 (MQ below (Qw D cI cZ base ad (pH ρ)) args s 0 0 (fun q => base ≤ q)) (F0 m 0 ls []) := by
  unfold B_M_alone at hρ
  unfold P_M_alone at hp
  refine lv_aload_n X.1 X.2.1 d_M_alone_0 rfl (hl.at 0 rfl) ?_
  refine r_getr (j := 28) X K hw fg_M_7 rfl rfl d_M_alone_1 ?_
  refine lv_iload_n X.1 X.2.1 d_M_alone_4 rfl (hl.at 1 rfl) ?_
  refine r_ald X K hw rfl hp.1 d_M_alone_5 ?_
  have hp := hp.2
  refine r_istore_n X hl d_M_alone_6 rfl (by decide) (fun ls hl => ?_)
  have hl : Lc ls 3 [some (.ref (ad 27)), some (.int x1), some (.int (h 28 (ix x1)))] := hl
  refine lv_aload_n X.1 X.2.1 d_M_alone_7 rfl (hl.at 0 rfl) ?_
  refine r_getr (j := 32) X K hw fg_M_22 rfl rfl d_M_alone_8 ?_
  refine lv_iload_n X.1 X.2.1 d_M_alone_11 rfl (hl.at 1 rfl) ?_
  refine lv_iconst (v := (3 : Int32)) X.1 X.2.1 d_M_alone_12 (by decide) ?_
  refine r_ast X K hw rfl hp.1 d_M_alone_13 (fun H locs hw => ?_)
  have hp := hp.2
  exact w_M_alone_14 fz x1 (h 28 (ix x1)) (u2 h 32 (ix x1) (3 : Int32)) ρ hρ hp X K hr hk hl hw
set_option maxRecDepth 100000 in
theorem c_M_alone (l : Launch) (D : va_G) (cI cZ : ClassId) (base : Nat) (ad : Nat → Nat) (fz : Nat) (x1 : Int32) (h : HH) (hp : P_M_alone fz x1 h) : Ct l D cI cZ base ad y_M_alone b_M_alone 3 none 0 0 [.ref (ad 27), .int x1] h (pH (B_M_alone fz x1 h)) := by
  refine Ct.of (by decide) (Nat.le_of_ble_eq_true rfl) (cat_ok rfl) ?_
  intro p e s m args below meth c ls X K hr hk hl hw
  exact w_M_alone fz x1 h _ rfl hp X K hr hk hl hw
end WALK
