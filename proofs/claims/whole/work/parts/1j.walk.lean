section WALK
variable {p : Program} {l : Launch} {e : Env} {s : State} {m : MethodId} {args : Array Value} {below : List Frame} {meth : Method} {c : Code} {D : va_G} {cI cZ : ClassId} {base : Nat} {ad : Nat → Nat} {R : Room} {Q : State → Prop} {cells slots : Nat}
set_option maxHeartbeats 4000000 in
set_option maxRecDepth 100000 in
theorem w_M_generation (fz : Nat) (x1 : Int32) (h : HH) (ρ : Int64) (hρ : B_M_generation fz x1 h = ρ) (hp : P_M_generation fz x1 h) (X : CallFix p m c b_M_generation 2 s args TB R_M) (K : KK D cI cZ s) (hr : meth.sig.returnType = (some .long)) (hk : meth.locks = false) {ls : Array Slot} {H : Heap} {locs : List Loc} (hl : Lc ls 2 [some (.ref (ad 27)), some (.int x1)]) (hw : Hw D cI cZ base ad s shape h H locs) : W p l e (rmD 1 20) s m args below meth c H locs 0 0 (MQ below (Qw D cI cZ base ad (pJ h ρ)) args s 0 0 (fun q => base ≤ q)) (F0 m 0 ls []) := by
  unfold B_M_generation at hρ
  unfold P_M_generation at hp
  refine lv_iload_n X.1 X.2.1 d_M_generation_0 rfl (hl.at 1 rfl) ?_
  refine r_callS (rest := []) X K hw hl.1 mf_M_117 (c_M_isNode l D cI cZ base ad fz x1 h hp.1) (by decide) ⟨Nat.le_refl _, Nat.le_refl _⟩ rfl rfl (Nat.le_of_ble_eq_true rfl) d_M_generation_1 (fun v h' H locs q hw => ?_)
  obtain ⟨rfl, rfl⟩ := q
  have hp := hp.2
  refine lv_if_eq (tgt := 29) X.1 X.2.1 d_M_generation_4 (by decide) (fun g => ?_) (fun g => ?_)
  · rw [if_pos g] at hρ
    have hp := hp.1 g
    refine lv_lconst (v := (0 : Int64)) X.1 X.2.1 d_M_generation_29 (by decide) ?_
    exact r_lret X hr hk hw ⟨congrArg (fun z => some (Value.long z)) hρ, rfl⟩ d_M_generation_30
  · rw [if_neg g] at hρ
    have hp := hp.2 g
    refine lv_ldc2 X.1 X.2.1 X.2.2.2.1 (X.2.2.2.2 _ kc_M_150) d_M_generation_7 ?_
    refine lv_aload_n X.1 X.2.1 d_M_generation_10 rfl (hl.at 0 rfl) ?_
    refine r_getr (j := 38) X K hw fg_M_41 rfl rfl d_M_generation_11 ?_
    refine lv_iload_n X.1 X.2.1 d_M_generation_14 rfl (hl.at 1 rfl) ?_
    refine r_ald X K hw rfl hp.1 d_M_generation_15 ?_
    have hp := hp.2
    refine lv_i2l X.1 X.2.1 d_M_generation_16 rfl ?_
    refine lv_lmul X.1 X.2.1 d_M_generation_17 ?_
    refine lv_aload_n X.1 X.2.1 d_M_generation_18 rfl (hl.at 0 rfl) ?_
    refine r_getr (j := 39) X K hw fg_M_44 rfl rfl d_M_generation_19 ?_
    refine lv_iload_n X.1 X.2.1 d_M_generation_22 rfl (hl.at 1 rfl) ?_
    refine r_ald X K hw rfl hp.1 d_M_generation_23 ?_
    have hp := hp.2
    refine lv_i2l X.1 X.2.1 d_M_generation_24 rfl ?_
    refine lv_ladd X.1 X.2.1 d_M_generation_25 ?_
    refine lv_goto (tgt := 30) X.1 X.2.1 d_M_generation_26 (by decide) ?_
    exact r_lret X hr hk hw ⟨congrArg (fun z => some (Value.long z)) hρ, rfl⟩ d_M_generation_30
set_option maxRecDepth 100000 in
theorem c_M_generation (l : Launch) (D : va_G) (cI cZ : ClassId) (base : Nat) (ad : Nat → Nat) (fz : Nat) (x1 : Int32) (h : HH) (hp : P_M_generation fz x1 h) : Ct l D cI cZ base ad y_M_generation b_M_generation 2 (some .long) 1 20 [.ref (ad 27), .int x1] h (pJ h (B_M_generation fz x1 h)) := by
  refine Ct.of (by decide) (Nat.le_of_ble_eq_true rfl) (cat_ok rfl) ?_
  intro p e s m args below meth c ls X K hr hk hl hw
  exact w_M_generation fz x1 h _ rfl hp X K hr hk hl hw
set_option maxHeartbeats 4000000 in
set_option maxRecDepth 100000 in
theorem w_M_map_13 (X : CallFix p m c b_M_map 4 s args TB R_M) (K : KK D cI cZ s) (hr : meth.sig.returnType = (some .int)) (hk : meth.locks = false) (fz : Nat) : ∀ (fu : Nat) (x1 : Int32) (x2 : Int32) (x3 : Int32) (h : HH) (ρ : Int32) (_ : B_M_map_13 fz fu x1 x2 x3 h = ρ) (_ : P_M_map_13 fz fu x1 x2 x3 h) {ls : Array Slot} {H : Heap} {locs : List Loc} (_ : Lc ls 4 [some (.ref (ad 27)), some (.int x1), some (.int x2), some (.int x3)]) (_ : Hw D cI cZ base ad s shape h H locs), W p l e (rmD 1 20) s m args below meth c H locs 0 0 (MQ below (Qw D cI cZ base ad (pI h ρ)) args s 0 0 (fun q => base ≤ q)) (F0 m 13 ls []) := by
  intro fu
  induction fu with
  | zero =>
    intro x1 x2 x3 h ρ hρ hp ls H locs hl hw
    exact hp.elim
  | succ fu ih =>
    intro x1 x2 x3 h ρ hρ hp ls H locs hl hw
    rw [B_M_map_13] at hρ
    rw [P_M_map_13] at hp
    refine lv_iload_n X.1 X.2.1 d_M_map_13 rfl (hl.at 3 rfl) ?_
    refine lv_bipush (v := (32 : Int32)) X.1 X.2.1 d_M_map_14 (by decide) ?_
    refine lv_icmp_ge (tgt := 49) X.1 X.2.1 d_M_map_16 (by decide) (fun g => ?_) (fun g => ?_)
    · rw [if_pos g] at hρ
      have hp := hp.1 g
      refine lv_iload_n X.1 X.2.1 d_M_map_49 rfl (hl.at 2 rfl) ?_
      exact r_iret X hr hk hw ⟨congrArg (fun z => some (Value.int z)) hρ, rfl⟩ d_M_map_50
    · rw [if_neg g] at hρ
      have hp := hp.2 g
      refine lv_aload_n X.1 X.2.1 d_M_map_19 rfl (hl.at 0 rfl) ?_
      refine r_getr (j := 35) X K hw fg_M_32 rfl rfl d_M_map_20 ?_
      refine lv_bipush (v := (32 : Int32)) X.1 X.2.1 d_M_map_23 (by decide) ?_
      refine lv_iload_n X.1 X.2.1 d_M_map_25 rfl (hl.at 1 rfl) ?_
      refine lv_imul X.1 X.2.1 d_M_map_26 ?_
      refine lv_iload_n X.1 X.2.1 d_M_map_27 rfl (hl.at 3 rfl) ?_
      refine lv_iadd X.1 X.2.1 d_M_map_28 ?_
      refine r_aldz X K hw rfl hp.1 d_M_map_29 ?_
      have hp := hp.2
      refine lv_if_eq (tgt := 41) X.1 X.2.1 d_M_map_30 (by decide) (fun g => ?_) (fun g => ?_)
      · rw [if_pos g] at hρ
        have hp := hp.1 g
        refine lv_iload_n X.1 X.2.1 d_M_map_41 rfl (hl.at 2 rfl) ?_
        refine r_istore_n X hl d_M_map_42 rfl (by decide) (fun ls hl => ?_)
        have hl : Lc ls 4 [some (.ref (ad 27)), some (.int x1), some (.int x2), some (.int x3)] := hl
        refine lv_iincL X.1 X.2.1 hl (v := (x3 + 1)) d_M_map_43 rfl (congrArg (fun z => x3 + z) (by decide)) (by decide) (fun ls hl => ?_)
        have hl : Lc ls 4 [some (.ref (ad 27)), some (.int x1), some (.int x2), some (.int (x3 + 1))] := hl
        refine lv_goto (tgt := 13) X.1 X.2.1 d_M_map_46 (by decide) ?_
        exact ih x1 x2 (x3 + 1) h ρ hρ hp hl hw
      · rw [if_neg g] at hρ
        have hp := hp.2 g
        refine lv_iload_n X.1 X.2.1 d_M_map_33 rfl (hl.at 2 rfl) ?_
        refine lv_iconst (v := (1 : Int32)) X.1 X.2.1 d_M_map_34 (by decide) ?_
        refine lv_iload_n X.1 X.2.1 d_M_map_35 rfl (hl.at 3 rfl) ?_
        refine lv_ishl X.1 X.2.1 d_M_map_36 ?_
        refine lv_ior X.1 X.2.1 d_M_map_37 ?_
        refine lv_goto (tgt := 42) X.1 X.2.1 d_M_map_38 (by decide) ?_
        refine r_istore_n X hl d_M_map_42 rfl (by decide) (fun ls hl => ?_)
        have hl : Lc ls 4 [some (.ref (ad 27)), some (.int x1), some (.int (x2 ||| ((1 : Int32) <<< (x3 &&& 31)))), some (.int x3)] := hl
        refine lv_iincL X.1 X.2.1 hl (v := (x3 + 1)) d_M_map_43 rfl (congrArg (fun z => x3 + z) (by decide)) (by decide) (fun ls hl => ?_)
        have hl : Lc ls 4 [some (.ref (ad 27)), some (.int x1), some (.int (x2 ||| ((1 : Int32) <<< (x3 &&& 31)))), some (.int (x3 + 1))] := hl
        refine lv_goto (tgt := 13) X.1 X.2.1 d_M_map_46 (by decide) ?_
        exact ih x1 (x2 ||| ((1 : Int32) <<< (x3 &&& 31))) (x3 + 1) h ρ hρ hp hl hw
set_option maxHeartbeats 4000000 in
set_option maxRecDepth 100000 in
theorem w_M_map (fz : Nat) (x1 : Int32) (h : HH) (ρ : Int32) (hρ : B_M_map fz x1 h = ρ) (hp : P_M_map fz x1 h) (X : CallFix p m c b_M_map 4 s args TB R_M) (K : KK D cI cZ s) (hr : meth.sig.returnType = (some .int)) (hk : meth.locks = false) {ls : Array Slot} {H : Heap} {locs : List Loc} (hl : Lc ls 4 [some (.ref (ad 27)), some (.int x1), none, none]) (hw : Hw D cI cZ base ad s shape h H locs) : W p l e (rmD 1 20) s m args below meth c H locs 0 0 (MQ below (Qw D cI cZ base ad (pI h ρ)) args s 0 0 (fun q => base ≤ q)) (F0 m 0 ls []) := by
  unfold B_M_map at hρ
  unfold P_M_map at hp
  refine lv_iload_n X.1 X.2.1 d_M_map_0 rfl (hl.at 1 rfl) ?_
  refine r_callS (rest := []) X K hw hl.1 mf_M_117 (c_M_isNode l D cI cZ base ad fz x1 h hp.1) (by decide) ⟨Nat.le_refl _, Nat.le_refl _⟩ rfl rfl (Nat.le_of_ble_eq_true rfl) d_M_map_1 (fun v h' H locs q hw => ?_)
  obtain ⟨rfl, rfl⟩ := q
  have hp := hp.2
  refine lv_if_ne (tgt := 9) X.1 X.2.1 d_M_map_4 (by decide) (fun g => ?_) (fun g => ?_)
  · rw [if_neg g] at hρ
    have hp := hp.2 g
    refine lv_iconst (v := (0 : Int32)) X.1 X.2.1 d_M_map_9 (by decide) ?_
    refine r_istore_n X hl d_M_map_10 rfl (by decide) (fun ls hl => ?_)
    have hl : Lc ls 4 [some (.ref (ad 27)), some (.int x1), some (.int (0 : Int32)), none] := hl
    refine lv_iconst (v := (0 : Int32)) X.1 X.2.1 d_M_map_11 (by decide) ?_
    refine r_istore_n X hl d_M_map_12 rfl (by decide) (fun ls hl => ?_)
    have hl : Lc ls 4 [some (.ref (ad 27)), some (.int x1), some (.int (0 : Int32)), some (.int (0 : Int32))] := hl
    exact w_M_map_13 X K hr hk fz fz x1 (0 : Int32) (0 : Int32) h ρ hρ hp hl hw
  · rw [if_pos g] at hρ
    have hp := hp.1 g
    refine lv_iconst (v := (0 : Int32)) X.1 X.2.1 d_M_map_7 (by decide) ?_
    exact r_iret X hr hk hw ⟨congrArg (fun z => some (Value.int z)) hρ, rfl⟩ d_M_map_8
set_option maxRecDepth 100000 in
theorem c_M_map (l : Launch) (D : va_G) (cI cZ : ClassId) (base : Nat) (ad : Nat → Nat) (fz : Nat) (x1 : Int32) (h : HH) (hp : P_M_map fz x1 h) : Ct l D cI cZ base ad y_M_map b_M_map 4 (some .int) 1 20 [.ref (ad 27), .int x1] h (pI h (B_M_map fz x1 h)) := by
  refine Ct.of (by decide) (Nat.le_of_ble_eq_true rfl) (cat_ok rfl) ?_
  intro p e s m args below meth c ls X K hr hk hl hw
  exact w_M_map fz x1 h _ rfl hp X K hr hk hl hw
set_option maxHeartbeats 4000000 in
set_option maxRecDepth 100000 in
theorem wl_M_log_23 (X : CallFix p m c b_M_log 6 s args TB R_M) (K : KK D cI cZ s) (fz : Nat) : ∀ (fu : Nat) (x1 : Int32) (x2 : Int32) (x3 : Int32) (x4 : Int32) (x5 : Int32) (h : HH) (ρ : Int32 × Int32) (_ : B_M_log_23 fz fu x1 x2 x3 x4 x5 h = ρ) (_ : P_M_log_23 fz fu x1 x2 x3 x4 x5 h) {ls : Array Slot} {H : Heap} {locs : List Loc} (_ : Lc ls 6 [some (.ref (ad 27)), some (.int x1), some (.int x2), some (.int x3), some (.int x4), some (.int x5)]) (_ : Hw D cI cZ base ad s shape h H locs) (_ : ∀ ls : Array Slot, Lc ls 6 [some (.ref (ad 27)), some (.int x1), some (.int x2), some (.int x3), some (.int ρ.1), some (.int ρ.2)] → W p l e R s m args below meth c H locs cells slots Q (F0 m 80 ls [])), W p l e R s m args below meth c H locs cells slots Q (F0 m 23 ls []) := by
  intro fu
  induction fu with
  | zero =>
    intro x1 x2 x3 x4 x5 h ρ hρ hp ls H locs hl hw kk
    exact hp.elim
  | succ fu ih =>
    intro x1 x2 x3 x4 x5 h ρ hρ hp ls H locs hl hw kk
    rw [B_M_log_23] at hρ
    rw [P_M_log_23] at hp
    refine lv_iload X.1 X.2.1 d_M_log_23 (hl.at 5 rfl) ?_
    refine lv_bipush (v := (8 : Int32)) X.1 X.2.1 d_M_log_25 (by decide) ?_
    refine lv_icmp_ge (tgt := 80) X.1 X.2.1 d_M_log_27 (by decide) (fun g => ?_) (fun g => ?_)
    · rw [if_pos g] at hρ
      have hp := hp.1 g
      subst hρ
      exact kk _ hl
    · rw [if_neg g] at hρ
      have hp := hp.2 g
      refine lv_aload_n X.1 X.2.1 d_M_log_30 rfl (hl.at 0 rfl) ?_
      refine r_getr (j := 36) X K hw fg_M_35 rfl rfl d_M_log_31 ?_
      refine lv_bipush (v := (8 : Int32)) X.1 X.2.1 d_M_log_34 (by decide) ?_
      refine lv_iload_n X.1 X.2.1 d_M_log_36 rfl (hl.at 1 rfl) ?_
      refine lv_imul X.1 X.2.1 d_M_log_37 ?_
      refine lv_iload X.1 X.2.1 d_M_log_38 (hl.at 5 rfl) ?_
      refine lv_iadd X.1 X.2.1 d_M_log_40 ?_
      refine r_aldz X K hw rfl hp.1 d_M_log_41 ?_
      have hp := hp.2
      refine lv_if_eq (tgt := 74) X.1 X.2.1 d_M_log_42 (by decide) (fun g => ?_) (fun g => ?_)
      · rw [if_pos g] at hρ
        have hp := hp.1 g
        refine lv_iincL X.1 X.2.1 hl (v := (x5 + 1)) d_M_log_74 rfl (congrArg (fun z => x5 + z) (by decide)) (by decide) (fun ls hl => ?_)
        have hl : Lc ls 6 [some (.ref (ad 27)), some (.int x1), some (.int x2), some (.int x3), some (.int x4), some (.int (x5 + 1))] := hl
        refine lv_goto (tgt := 23) X.1 X.2.1 d_M_log_77 (by decide) ?_
        exact ih x1 x2 x3 x4 (x5 + 1) h ρ hρ hp hl hw kk
      · rw [if_neg g] at hρ
        have hp := hp.2 g
        refine lv_aload_n X.1 X.2.1 d_M_log_45 rfl (hl.at 0 rfl) ?_
        refine r_getr (j := 37) X K hw fg_M_38 rfl rfl d_M_log_46 ?_
        refine lv_bipush (v := (8 : Int32)) X.1 X.2.1 d_M_log_49 (by decide) ?_
        refine lv_iload_n X.1 X.2.1 d_M_log_51 rfl (hl.at 1 rfl) ?_
        refine lv_imul X.1 X.2.1 d_M_log_52 ?_
        refine lv_iload X.1 X.2.1 d_M_log_53 (hl.at 5 rfl) ?_
        refine lv_iadd X.1 X.2.1 d_M_log_55 ?_
        refine r_ald X K hw rfl hp.1 d_M_log_56 ?_
        have hp := hp.2
        refine lv_aload_n X.1 X.2.1 d_M_log_57 rfl (hl.at 0 rfl) ?_
        refine r_getr (j := 37) X K hw fg_M_38 rfl rfl d_M_log_58 ?_
        refine lv_bipush (v := (8 : Int32)) X.1 X.2.1 d_M_log_61 (by decide) ?_
        refine lv_iload_n X.1 X.2.1 d_M_log_63 rfl (hl.at 1 rfl) ?_
        refine lv_imul X.1 X.2.1 d_M_log_64 ?_
        refine lv_iload_n X.1 X.2.1 d_M_log_65 rfl (hl.at 3 rfl) ?_
        refine lv_iadd X.1 X.2.1 d_M_log_66 ?_
        refine r_ald X K hw rfl hp.1 d_M_log_67 ?_
        have hp := hp.2
        refine lv_icmp_le (tgt := 74) X.1 X.2.1 d_M_log_68 (by decide) (fun g => ?_) (fun g => ?_)
        · rw [if_pos g] at hρ
          have hp := hp.1 g
          refine lv_iincL X.1 X.2.1 hl (v := (x5 + 1)) d_M_log_74 rfl (congrArg (fun z => x5 + z) (by decide)) (by decide) (fun ls hl => ?_)
          have hl : Lc ls 6 [some (.ref (ad 27)), some (.int x1), some (.int x2), some (.int x3), some (.int x4), some (.int (x5 + 1))] := hl
          refine lv_goto (tgt := 23) X.1 X.2.1 d_M_log_77 (by decide) ?_
          exact ih x1 x2 x3 x4 (x5 + 1) h ρ hρ hp hl hw kk
        · rw [if_neg g] at hρ
          have hp := hp.2 g
          refine lv_iincL X.1 X.2.1 hl (v := (x4 + 1)) d_M_log_71 rfl (congrArg (fun z => x4 + z) (by decide)) (by decide) (fun ls hl => ?_)
          have hl : Lc ls 6 [some (.ref (ad 27)), some (.int x1), some (.int x2), some (.int x3), some (.int (x4 + 1)), some (.int x5)] := hl
          refine lv_iincL X.1 X.2.1 hl (v := (x5 + 1)) d_M_log_74 rfl (congrArg (fun z => x5 + z) (by decide)) (by decide) (fun ls hl => ?_)
          have hl : Lc ls 6 [some (.ref (ad 27)), some (.int x1), some (.int x2), some (.int x3), some (.int (x4 + 1)), some (.int (x5 + 1))] := hl
          refine lv_goto (tgt := 23) X.1 X.2.1 d_M_log_77 (by decide) ?_
          exact ih x1 x2 x3 (x4 + 1) (x5 + 1) h ρ hρ hp hl hw kk
set_option maxHeartbeats 4000000 in
set_option maxRecDepth 100000 in
theorem w_M_log_11 (X : CallFix p m c b_M_log 6 s args TB R_M) (K : KK D cI cZ s) (hr : meth.sig.returnType = (some .int)) (hk : meth.locks = false) (fz : Nat) : ∀ (fu : Nat) (x1 : Int32) (x2 : Int32) (x3 : Int32) (h : HH) (ρ : Int32) (_ : B_M_log_11 fz fu x1 x2 x3 h = ρ) (_ : P_M_log_11 fz fu x1 x2 x3 h) {ls : Array Slot} {H : Heap} {locs : List Loc} (_ : Lc ls 6 [some (.ref (ad 27)), some (.int x1), some (.int x2), some (.int x3), none, none]) (_ : Hw D cI cZ base ad s shape h H locs), W p l e (rmD 1 20) s m args below meth c H locs 0 0 (MQ below (Qw D cI cZ base ad (pI h ρ)) args s 0 0 (fun q => base ≤ q)) (F0 m 11 ls []) := by
  intro fu
  induction fu with
  | zero =>
    intro x1 x2 x3 h ρ hρ hp ls H locs hl hw
    exact hp.elim
  | succ fu ih =>
    intro x1 x2 x3 h ρ hρ hp ls H locs hl hw
    rw [B_M_log_11] at hρ
    rw [P_M_log_11] at hp
    refine lv_iload_n X.1 X.2.1 d_M_log_11 rfl (hl.at 3 rfl) ?_
    refine lv_bipush (v := (8 : Int32)) X.1 X.2.1 d_M_log_12 (by decide) ?_
    refine lv_icmp_ge (tgt := 108) X.1 X.2.1 d_M_log_14 (by decide) (fun g => ?_) (fun g => ?_)
    · rw [if_pos g] at hρ
      have hp := hp.1 g
      refine lv_iconst (v := (-1 : Int32)) X.1 X.2.1 d_M_log_108 (by decide) ?_
      exact r_iret X hr hk hw ⟨congrArg (fun z => some (Value.int z)) hρ, rfl⟩ d_M_log_109
    · rw [if_neg g] at hρ
      have hp := hp.2 g
      refine lv_iconst (v := (0 : Int32)) X.1 X.2.1 d_M_log_17 (by decide) ?_
      refine r_istore X hl d_M_log_18 (by decide) (fun ls hl => ?_)
      have hl : Lc ls 6 [some (.ref (ad 27)), some (.int x1), some (.int x2), some (.int x3), some (.int (0 : Int32)), none] := hl
      refine lv_iconst (v := (0 : Int32)) X.1 X.2.1 d_M_log_20 (by decide) ?_
      refine r_istore X hl d_M_log_21 (by decide) (fun ls hl => ?_)
      have hl : Lc ls 6 [some (.ref (ad 27)), some (.int x1), some (.int x2), some (.int x3), some (.int (0 : Int32)), some (.int (0 : Int32))] := hl
      refine wl_M_log_23 X K fz fz x1 x2 x3 (0 : Int32) (0 : Int32) h _ rfl hp.1 hl hw (fun ls hl => ?_)
      have hp := hp.2
      have hl : Lc ls 6 [some (.ref (ad 27)), some (.int x1), some (.int x2), some (.int x3), some (.int (B_M_log_23 fz fz x1 x2 x3 (0 : Int32) (0 : Int32) h).1), some (.int (B_M_log_23 fz fz x1 x2 x3 (0 : Int32) (0 : Int32) h).2)] := hl
      refine lv_aload_n X.1 X.2.1 d_M_log_80 rfl (hl.at 0 rfl) ?_
      refine r_getr (j := 36) X K hw fg_M_35 rfl rfl d_M_log_81 ?_
      refine lv_bipush (v := (8 : Int32)) X.1 X.2.1 d_M_log_84 (by decide) ?_
      refine lv_iload_n X.1 X.2.1 d_M_log_86 rfl (hl.at 1 rfl) ?_
      refine lv_imul X.1 X.2.1 d_M_log_87 ?_
      refine lv_iload_n X.1 X.2.1 d_M_log_88 rfl (hl.at 3 rfl) ?_
      refine lv_iadd X.1 X.2.1 d_M_log_89 ?_
      refine r_aldz X K hw rfl hp.1 d_M_log_90 ?_
      have hp := hp.2
      refine lv_if_eq (tgt := 102) X.1 X.2.1 d_M_log_91 (by decide) (fun g => ?_) (fun g => ?_)
      · rw [if_pos g] at hρ
        have hp := hp.1 g
        refine lv_iincL X.1 X.2.1 hl (v := (x3 + 1)) d_M_log_102 rfl (congrArg (fun z => x3 + z) (by decide)) (by decide) (fun ls hl => ?_)
        have hl : Lc ls 6 [some (.ref (ad 27)), some (.int x1), some (.int x2), some (.int (x3 + 1)), some (.int (B_M_log_23 fz fz x1 x2 x3 (0 : Int32) (0 : Int32) h).1), some (.int (B_M_log_23 fz fz x1 x2 x3 (0 : Int32) (0 : Int32) h).2)] := hl
        refine lv_goto (tgt := 11) X.1 X.2.1 d_M_log_105 (by decide) ?_
        have hl : Lc ls 6 [some (.ref (ad 27)), some (.int x1), some (.int x2), some (.int (x3 + 1)), none, none] := hl.mask [true, true, true, true, false, false]
        exact ih x1 x2 (x3 + 1) h ρ hρ hp hl hw
      · rw [if_neg g] at hρ
        have hp := hp.2 g
        refine lv_iload X.1 X.2.1 d_M_log_94 (hl.at 4 rfl) ?_
        refine lv_iload_n X.1 X.2.1 d_M_log_96 rfl (hl.at 2 rfl) ?_
        refine lv_icmp_ne (tgt := 102) X.1 X.2.1 d_M_log_97 (by decide) (fun g => ?_) (fun g => ?_)
        · rw [if_neg g] at hρ
          have hp := hp.2 g
          refine lv_iincL X.1 X.2.1 hl (v := (x3 + 1)) d_M_log_102 rfl (congrArg (fun z => x3 + z) (by decide)) (by decide) (fun ls hl => ?_)
          have hl : Lc ls 6 [some (.ref (ad 27)), some (.int x1), some (.int x2), some (.int (x3 + 1)), some (.int (B_M_log_23 fz fz x1 x2 x3 (0 : Int32) (0 : Int32) h).1), some (.int (B_M_log_23 fz fz x1 x2 x3 (0 : Int32) (0 : Int32) h).2)] := hl
          refine lv_goto (tgt := 11) X.1 X.2.1 d_M_log_105 (by decide) ?_
          have hl : Lc ls 6 [some (.ref (ad 27)), some (.int x1), some (.int x2), some (.int (x3 + 1)), none, none] := hl.mask [true, true, true, true, false, false]
          exact ih x1 x2 (x3 + 1) h ρ hρ hp hl hw
        · rw [if_pos g] at hρ
          have hp := hp.1 g
          refine lv_iload_n X.1 X.2.1 d_M_log_100 rfl (hl.at 3 rfl) ?_
          exact r_iret X hr hk hw ⟨congrArg (fun z => some (Value.int z)) hρ, rfl⟩ d_M_log_101
set_option maxHeartbeats 4000000 in
set_option maxRecDepth 100000 in
theorem w_M_log (fz : Nat) (x1 : Int32) (x2 : Int32) (h : HH) (ρ : Int32) (hρ : B_M_log fz x1 x2 h = ρ) (hp : P_M_log fz x1 x2 h) (X : CallFix p m c b_M_log 6 s args TB R_M) (K : KK D cI cZ s) (hr : meth.sig.returnType = (some .int)) (hk : meth.locks = false) {ls : Array Slot} {H : Heap} {locs : List Loc} (hl : Lc ls 6 [some (.ref (ad 27)), some (.int x1), some (.int x2), none, none, none]) (hw : Hw D cI cZ base ad s shape h H locs) : W p l e (rmD 1 20) s m args below meth c H locs 0 0 (MQ below (Qw D cI cZ base ad (pI h ρ)) args s 0 0 (fun q => base ≤ q)) (F0 m 0 ls []) := by
  unfold B_M_log at hρ
  unfold P_M_log at hp
  refine lv_iload_n X.1 X.2.1 d_M_log_0 rfl (hl.at 1 rfl) ?_
  refine r_callS (rest := []) X K hw hl.1 mf_M_117 (c_M_isNode l D cI cZ base ad fz x1 h hp.1) (by decide) ⟨Nat.le_refl _, Nat.le_refl _⟩ rfl rfl (Nat.le_of_ble_eq_true rfl) d_M_log_1 (fun v h' H locs q hw => ?_)
  obtain ⟨rfl, rfl⟩ := q
  have hp := hp.2
  refine lv_if_ne (tgt := 9) X.1 X.2.1 d_M_log_4 (by decide) (fun g => ?_) (fun g => ?_)
  · rw [if_neg g] at hρ
    have hp := hp.2 g
    refine lv_iconst (v := (0 : Int32)) X.1 X.2.1 d_M_log_9 (by decide) ?_
    refine r_istore_n X hl d_M_log_10 rfl (by decide) (fun ls hl => ?_)
    have hl : Lc ls 6 [some (.ref (ad 27)), some (.int x1), some (.int x2), some (.int (0 : Int32)), none, none] := hl
    exact w_M_log_11 X K hr hk fz fz x1 x2 (0 : Int32) h ρ hρ hp hl hw
  · rw [if_pos g] at hρ
    have hp := hp.1 g
    refine lv_iconst (v := (-1 : Int32)) X.1 X.2.1 d_M_log_7 (by decide) ?_
    exact r_iret X hr hk hw ⟨congrArg (fun z => some (Value.int z)) hρ, rfl⟩ d_M_log_8
set_option maxRecDepth 100000 in
theorem c_M_log (l : Launch) (D : va_G) (cI cZ : ClassId) (base : Nat) (ad : Nat → Nat) (fz : Nat) (x1 : Int32) (x2 : Int32) (h : HH) (hp : P_M_log fz x1 x2 h) : Ct l D cI cZ base ad y_M_log b_M_log 6 (some .int) 1 20 [.ref (ad 27), .int x1, .int x2] h (pI h (B_M_log fz x1 x2 h)) := by
  refine Ct.of (by decide) (Nat.le_of_ble_eq_true rfl) (cat_ok rfl) ?_
  intro p e s m args below meth c ls X K hr hk hl hw
  exact w_M_log fz x1 x2 h _ rfl hp X K hr hk hl hw
set_option maxHeartbeats 4000000 in
set_option maxRecDepth 100000 in
theorem w_M_traffic_13 (X : CallFix p m c b_M_traffic 4 s args TB R_M) (K : KK D cI cZ s) (hr : meth.sig.returnType = (some .int)) (hk : meth.locks = false) (fz : Nat) : ∀ (fu : Nat) (x1 : Int32) (x2 : Int32) (x3 : Int32) (h : HH) (ρ : Int32) (_ : B_M_traffic_13 fz fu x1 x2 x3 h = ρ) (_ : P_M_traffic_13 fz fu x1 x2 x3 h) {ls : Array Slot} {H : Heap} {locs : List Loc} (_ : Lc ls 4 [some (.ref (ad 27)), some (.int x1), some (.int x2), some (.int x3)]) (_ : Hw D cI cZ base ad s shape h H locs), W p l e (rmD 2 47) s m args below meth c H locs 0 0 (MQ below (Qw D cI cZ base ad (pI h ρ)) args s 0 0 (fun q => base ≤ q)) (F0 m 13 ls []) := by
  intro fu
  induction fu with
  | zero =>
    intro x1 x2 x3 h ρ hρ hp ls H locs hl hw
    exact hp.elim
  | succ fu ih =>
    intro x1 x2 x3 h ρ hρ hp ls H locs hl hw
    rw [B_M_traffic_13] at hρ
    rw [P_M_traffic_13] at hp
    refine lv_iload_n X.1 X.2.1 d_M_traffic_13 rfl (hl.at 3 rfl) ?_
    refine lv_aload_n X.1 X.2.1 d_M_traffic_14 rfl (hl.at 0 rfl) ?_
    refine r_geti X K hw fg_M_87 rfl rfl d_M_traffic_15 ?_
    refine lv_icmp_gt (tgt := 56) X.1 X.2.1 d_M_traffic_18 (by decide) (fun g => ?_) (fun g => ?_)
    · rw [if_pos g] at hρ
      have hp := hp.1 g
      refine lv_aload_n X.1 X.2.1 d_M_traffic_56 rfl (hl.at 0 rfl) ?_
      refine r_getr (j := 51) X K hw fg_M_84 rfl rfl d_M_traffic_57 ?_
      refine lv_iload_n X.1 X.2.1 d_M_traffic_60 rfl (hl.at 1 rfl) ?_
      refine r_ald X K hw rfl hp.1 d_M_traffic_61 ?_
      have hp := hp.2
      refine lv_bipush (v := (100 : Int32)) X.1 X.2.1 d_M_traffic_62 (by decide) ?_
      refine lv_iload_n X.1 X.2.1 d_M_traffic_64 rfl (hl.at 2 rfl) ?_
      refine lv_imul X.1 X.2.1 d_M_traffic_65 ?_
      refine lv_iadd X.1 X.2.1 d_M_traffic_66 ?_
      refine lv_sipush (v := (10000 : Int32)) X.1 X.2.1 d_M_traffic_67 (by decide) ?_
      refine lv_aload_n X.1 X.2.1 d_M_traffic_70 rfl (hl.at 0 rfl) ?_
      refine lv_iload_n X.1 X.2.1 d_M_traffic_71 rfl (hl.at 1 rfl) ?_
      refine lv_iconst (v := (-1 : Int32)) X.1 X.2.1 d_M_traffic_72 (by decide) ?_
      refine r_callV (rest := [.int (10000 : Int32), .int ((h 51 (ix x1)) + ((100 : Int32) * x2))]) X K hw hl.1 mf_M_139 rfl rfl rfl (c_M_underWay l D cI cZ base ad fz x1 (-1 : Int32) h hp.1) (by decide) ⟨Nat.le_refl _, Nat.le_refl _⟩ rfl rfl (Nat.le_of_ble_eq_true rfl) d_M_traffic_73 (fun v h' H locs q hw => ?_)
      obtain ⟨rfl, rfl⟩ := q
      have hp := hp.2
      refine lv_imul X.1 X.2.1 d_M_traffic_76 ?_
      refine lv_iadd X.1 X.2.1 d_M_traffic_77 ?_
      exact r_iret X hr hk hw ⟨congrArg (fun z => some (Value.int z)) hρ, rfl⟩ d_M_traffic_78
    · rw [if_neg g] at hρ
      have hp := hp.2 g
      refine lv_aload_n X.1 X.2.1 d_M_traffic_21 rfl (hl.at 0 rfl) ?_
      refine r_getr (j := 33) X K hw fg_M_25 rfl rfl d_M_traffic_22 ?_
      refine lv_iload_n X.1 X.2.1 d_M_traffic_25 rfl (hl.at 3 rfl) ?_
      refine r_aldz X K hw rfl hp.1 d_M_traffic_26 ?_
      have hp := hp.2
      refine lv_if_eq (tgt := 48) X.1 X.2.1 d_M_traffic_27 (by decide) (fun g => ?_) (fun g => ?_)
      · rw [if_pos g] at hρ
        have hp := hp.1 g
        refine lv_iload_n X.1 X.2.1 d_M_traffic_48 rfl (hl.at 2 rfl) ?_
        refine r_istore_n X hl d_M_traffic_49 rfl (by decide) (fun ls hl => ?_)
        have hl : Lc ls 4 [some (.ref (ad 27)), some (.int x1), some (.int x2), some (.int x3)] := hl
        refine lv_iincL X.1 X.2.1 hl (v := (x3 + 1)) d_M_traffic_50 rfl (congrArg (fun z => x3 + z) (by decide)) (by decide) (fun ls hl => ?_)
        have hl : Lc ls 4 [some (.ref (ad 27)), some (.int x1), some (.int x2), some (.int (x3 + 1))] := hl
        refine lv_goto (tgt := 13) X.1 X.2.1 d_M_traffic_53 (by decide) ?_
        exact ih x1 x2 (x3 + 1) h ρ hρ hp hl hw
      · rw [if_neg g] at hρ
        have hp := hp.2 g
        refine lv_aload_n X.1 X.2.1 d_M_traffic_30 rfl (hl.at 0 rfl) ?_
        refine r_getr (j := 28) X K hw fg_M_7 rfl rfl d_M_traffic_31 ?_
        refine lv_iload_n X.1 X.2.1 d_M_traffic_34 rfl (hl.at 3 rfl) ?_
        refine r_ald X K hw rfl hp.1 d_M_traffic_35 ?_
        have hp := hp.2
        refine lv_iconst (v := (1 : Int32)) X.1 X.2.1 d_M_traffic_36 (by decide) ?_
        refine lv_iload_n X.1 X.2.1 d_M_traffic_37 rfl (hl.at 1 rfl) ?_
        refine lv_isub X.1 X.2.1 d_M_traffic_38 ?_
        refine lv_icmp_ne (tgt := 48) X.1 X.2.1 d_M_traffic_39 (by decide) (fun g => ?_) (fun g => ?_)
        · rw [if_neg g] at hρ
          have hp := hp.2 g
          refine lv_iload_n X.1 X.2.1 d_M_traffic_48 rfl (hl.at 2 rfl) ?_
          refine r_istore_n X hl d_M_traffic_49 rfl (by decide) (fun ls hl => ?_)
          have hl : Lc ls 4 [some (.ref (ad 27)), some (.int x1), some (.int x2), some (.int x3)] := hl
          refine lv_iincL X.1 X.2.1 hl (v := (x3 + 1)) d_M_traffic_50 rfl (congrArg (fun z => x3 + z) (by decide)) (by decide) (fun ls hl => ?_)
          have hl : Lc ls 4 [some (.ref (ad 27)), some (.int x1), some (.int x2), some (.int (x3 + 1))] := hl
          refine lv_goto (tgt := 13) X.1 X.2.1 d_M_traffic_53 (by decide) ?_
          exact ih x1 x2 (x3 + 1) h ρ hρ hp hl hw
        · rw [if_pos g] at hρ
          have hp := hp.1 g
          refine lv_iload_n X.1 X.2.1 d_M_traffic_42 rfl (hl.at 2 rfl) ?_
          refine lv_iconst (v := (1 : Int32)) X.1 X.2.1 d_M_traffic_43 (by decide) ?_
          refine lv_iadd X.1 X.2.1 d_M_traffic_44 ?_
          refine lv_goto (tgt := 49) X.1 X.2.1 d_M_traffic_45 (by decide) ?_
          refine r_istore_n X hl d_M_traffic_49 rfl (by decide) (fun ls hl => ?_)
          have hl : Lc ls 4 [some (.ref (ad 27)), some (.int x1), some (.int (x2 + (1 : Int32))), some (.int x3)] := hl
          refine lv_iincL X.1 X.2.1 hl (v := (x3 + 1)) d_M_traffic_50 rfl (congrArg (fun z => x3 + z) (by decide)) (by decide) (fun ls hl => ?_)
          have hl : Lc ls 4 [some (.ref (ad 27)), some (.int x1), some (.int (x2 + (1 : Int32))), some (.int (x3 + 1))] := hl
          refine lv_goto (tgt := 13) X.1 X.2.1 d_M_traffic_53 (by decide) ?_
          exact ih x1 (x2 + (1 : Int32)) (x3 + 1) h ρ hρ hp hl hw
set_option maxHeartbeats 4000000 in
set_option maxRecDepth 100000 in
theorem w_M_traffic (fz : Nat) (x1 : Int32) (h : HH) (ρ : Int32) (hρ : B_M_traffic fz x1 h = ρ) (hp : P_M_traffic fz x1 h) (X : CallFix p m c b_M_traffic 4 s args TB R_M) (K : KK D cI cZ s) (hr : meth.sig.returnType = (some .int)) (hk : meth.locks = false) {ls : Array Slot} {H : Heap} {locs : List Loc} (hl : Lc ls 4 [some (.ref (ad 27)), some (.int x1), none, none]) (hw : Hw D cI cZ base ad s shape h H locs) : W p l e (rmD 2 47) s m args below meth c H locs 0 0 (MQ below (Qw D cI cZ base ad (pI h ρ)) args s 0 0 (fun q => base ≤ q)) (F0 m 0 ls []) := by
  unfold B_M_traffic at hρ
  unfold P_M_traffic at hp
  refine lv_iload_n X.1 X.2.1 d_M_traffic_0 rfl (hl.at 1 rfl) ?_
  refine r_callS (rest := []) X K hw hl.1 mf_M_117 (c_M_isNode l D cI cZ base ad fz x1 h hp.1) (by decide) ⟨Nat.le_refl _, Nat.le_refl _⟩ rfl rfl (Nat.le_of_ble_eq_true rfl) d_M_traffic_1 (fun v h' H locs q hw => ?_)
  obtain ⟨rfl, rfl⟩ := q
  have hp := hp.2
  refine lv_if_ne (tgt := 9) X.1 X.2.1 d_M_traffic_4 (by decide) (fun g => ?_) (fun g => ?_)
  · rw [if_neg g] at hρ
    have hp := hp.2 g
    refine lv_iconst (v := (0 : Int32)) X.1 X.2.1 d_M_traffic_9 (by decide) ?_
    refine r_istore_n X hl d_M_traffic_10 rfl (by decide) (fun ls hl => ?_)
    have hl : Lc ls 4 [some (.ref (ad 27)), some (.int x1), some (.int (0 : Int32)), none] := hl
    refine lv_iconst (v := (1 : Int32)) X.1 X.2.1 d_M_traffic_11 (by decide) ?_
    refine r_istore_n X hl d_M_traffic_12 rfl (by decide) (fun ls hl => ?_)
    have hl : Lc ls 4 [some (.ref (ad 27)), some (.int x1), some (.int (0 : Int32)), some (.int (1 : Int32))] := hl
    exact w_M_traffic_13 X K hr hk fz fz x1 (0 : Int32) (1 : Int32) h ρ hρ hp hl hw
  · rw [if_pos g] at hρ
    have hp := hp.1 g
    refine lv_iconst (v := (0 : Int32)) X.1 X.2.1 d_M_traffic_7 (by decide) ?_
    exact r_iret X hr hk hw ⟨congrArg (fun z => some (Value.int z)) hρ, rfl⟩ d_M_traffic_8
set_option maxRecDepth 100000 in
theorem c_M_traffic (l : Launch) (D : va_G) (cI cZ : ClassId) (base : Nat) (ad : Nat → Nat) (fz : Nat) (x1 : Int32) (h : HH) (hp : P_M_traffic fz x1 h) : Ct l D cI cZ base ad y_M_traffic b_M_traffic 4 (some .int) 2 47 [.ref (ad 27), .int x1] h (pI h (B_M_traffic fz x1 h)) := by
  refine Ct.of (by decide) (Nat.le_of_ble_eq_true rfl) (cat_ok rfl) ?_
  intro p e s m args below meth c ls X K hr hk hl hw
  exact w_M_traffic fz x1 h _ rfl hp X K hr hk hl hw
end WALK
