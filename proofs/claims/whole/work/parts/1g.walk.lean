section WALK
variable {p : Program} {l : Launch} {e : Env} {s : State} {m : MethodId} {args : Array Value} {below : List Frame} {meth : Method} {c : Code} {D : va_G} {cI cZ : ClassId} {base : Nat} {ad : Nat → Nat} {R : Room} {Q : State → Prop} {cells slots : Nat}
set_option maxHeartbeats 4000000 in
set_option maxRecDepth 100000 in
theorem w_M_turnInto_3 (X : CallFix p m c b_M_turnInto 5 s args TB R_M) (K : KK D cI cZ s) (hr : meth.sig.returnType = none) (hk : meth.locks = false) (fz : Nat) : ∀ (fu : Nat) (x1 : Int32) (x2 : Int32) (x3 : Int32) (x4 : Int32) (h : HH) (ρ : HH) (_ : B_M_turnInto_3 fz fu x1 x2 x3 x4 h = ρ) (_ : P_M_turnInto_3 fz fu x1 x2 x3 x4 h) {ls : Array Slot} {H : Heap} {locs : List Loc} (_ : Lc ls 5 [some (.ref (ad 27)), some (.int x1), some (.int x2), some (.int x3), some (.int x4)]) (_ : Hw D cI cZ base ad s shape h H locs), W p l e (rmD 0 0) s m args below meth c H locs 0 0 (MQ below (Qw D cI cZ base ad (pH ρ)) args s 0 0 (fun q => base ≤ q)) (F0 m 3 ls []) := by
  intro fu
  induction fu with
  | zero =>
    intro x1 x2 x3 x4 h ρ hρ hp ls H locs hl hw
    exact hp.elim
  | succ fu ih =>
    intro x1 x2 x3 x4 h ρ hρ hp ls H locs hl hw
    rw [B_M_turnInto_3] at hρ
    rw [P_M_turnInto_3] at hp
    refine lv_iload X.1 X.2.1 d_M_turnInto_3 (hl.at 4 rfl) ?_
    refine lv_aload_n X.1 X.2.1 d_M_turnInto_5 rfl (hl.at 0 rfl) ?_
    refine r_geti X K hw fg_M_87 rfl rfl d_M_turnInto_6 ?_
    refine lv_icmp_gt (tgt := 48) X.1 X.2.1 d_M_turnInto_9 (by decide) (fun g => ?_) (fun g => ?_)
    · rw [if_pos g] at hρ
      have hp := hp.1 g
      exact r_vret X hr hk hw ⟨rfl, hρ.symm⟩ d_M_turnInto_48
    · rw [if_neg g] at hρ
      have hp := hp.2 g
      refine lv_aload_n X.1 X.2.1 d_M_turnInto_12 rfl (hl.at 0 rfl) ?_
      refine r_getr (j := 28) X K hw fg_M_7 rfl rfl d_M_turnInto_13 ?_
      refine lv_iload X.1 X.2.1 d_M_turnInto_16 (hl.at 4 rfl) ?_
      refine r_ald X K hw rfl hp.1 d_M_turnInto_18 ?_
      have hp := hp.2
      refine lv_iload_n X.1 X.2.1 d_M_turnInto_19 rfl (hl.at 1 rfl) ?_
      refine lv_icmp_ne (tgt := 42) X.1 X.2.1 d_M_turnInto_20 (by decide) (fun g => ?_) (fun g => ?_)
      · rw [if_neg g] at hρ
        have hp := hp.2 g
        refine lv_iincL X.1 X.2.1 hl (v := (x4 + 1)) d_M_turnInto_42 rfl (congrArg (fun z => x4 + z) (by decide)) (by decide) (fun ls hl => ?_)
        have hl : Lc ls 5 [some (.ref (ad 27)), some (.int x1), some (.int x2), some (.int x3), some (.int (x4 + 1))] := hl
        refine lv_goto (tgt := 3) X.1 X.2.1 d_M_turnInto_45 (by decide) ?_
        exact ih x1 x2 x3 (x4 + 1) h ρ hρ hp hl hw
      · rw [if_pos g] at hρ
        have hp := hp.1 g
        refine lv_aload_n X.1 X.2.1 d_M_turnInto_23 rfl (hl.at 0 rfl) ?_
        refine r_getr (j := 32) X K hw fg_M_22 rfl rfl d_M_turnInto_24 ?_
        refine lv_iload X.1 X.2.1 d_M_turnInto_27 (hl.at 4 rfl) ?_
        refine r_ald X K hw rfl hp.1 d_M_turnInto_29 ?_
        have hp := hp.2
        refine lv_iload_n X.1 X.2.1 d_M_turnInto_30 rfl (hl.at 2 rfl) ?_
        refine lv_icmp_ne (tgt := 42) X.1 X.2.1 d_M_turnInto_31 (by decide) (fun g => ?_) (fun g => ?_)
        · rw [if_neg g] at hρ
          have hp := hp.2 g
          refine lv_iincL X.1 X.2.1 hl (v := (x4 + 1)) d_M_turnInto_42 rfl (congrArg (fun z => x4 + z) (by decide)) (by decide) (fun ls hl => ?_)
          have hl : Lc ls 5 [some (.ref (ad 27)), some (.int x1), some (.int x2), some (.int x3), some (.int (x4 + 1))] := hl
          refine lv_goto (tgt := 3) X.1 X.2.1 d_M_turnInto_45 (by decide) ?_
          exact ih x1 x2 x3 (x4 + 1) h ρ hρ hp hl hw
        · rw [if_pos g] at hρ
          have hp := hp.1 g
          refine lv_aload_n X.1 X.2.1 d_M_turnInto_34 rfl (hl.at 0 rfl) ?_
          refine r_getr (j := 32) X K hw fg_M_22 rfl rfl d_M_turnInto_35 ?_
          refine lv_iload X.1 X.2.1 d_M_turnInto_38 (hl.at 4 rfl) ?_
          refine lv_iload_n X.1 X.2.1 d_M_turnInto_40 rfl (hl.at 3 rfl) ?_
          refine r_ast X K hw rfl hp.1 d_M_turnInto_41 (fun H locs hw => ?_)
          have hp := hp.2
          refine lv_iincL X.1 X.2.1 hl (v := (x4 + 1)) d_M_turnInto_42 rfl (congrArg (fun z => x4 + z) (by decide)) (by decide) (fun ls hl => ?_)
          have hl : Lc ls 5 [some (.ref (ad 27)), some (.int x1), some (.int x2), some (.int x3), some (.int (x4 + 1))] := hl
          refine lv_goto (tgt := 3) X.1 X.2.1 d_M_turnInto_45 (by decide) ?_
          exact ih x1 x2 x3 (x4 + 1) (u2 h 32 (ix x4) x3) ρ hρ hp hl hw
set_option maxHeartbeats 4000000 in
set_option maxRecDepth 100000 in
theorem w_M_turnInto (fz : Nat) (x1 : Int32) (x2 : Int32) (x3 : Int32) (h : HH) (ρ : HH) (hρ : B_M_turnInto fz x1 x2 x3 h = ρ) (hp : P_M_turnInto fz x1 x2 x3 h) (X : CallFix p m c b_M_turnInto 5 s args TB R_M) (K : KK D cI cZ s) (hr : meth.sig.returnType = none) (hk : meth.locks = false) {ls : Array Slot} {H : Heap} {locs : List Loc} (hl : Lc ls 5 [some (.ref (ad 27)), some (.int x1), some (.int x2), some (.int x3), none]) (hw : Hw D cI cZ base ad s shape h H locs) : W p l e (rmD 0 0) s m args below meth c H locs 0 0 (MQ below (Qw D cI cZ base ad (pH ρ)) args s 0 0 (fun q => base ≤ q)) (F0 m 0 ls []) := by
  unfold B_M_turnInto at hρ
  unfold P_M_turnInto at hp
  refine lv_iconst (v := (1 : Int32)) X.1 X.2.1 d_M_turnInto_0 (by decide) ?_
  refine r_istore X hl d_M_turnInto_1 (by decide) (fun ls hl => ?_)
  have hl : Lc ls 5 [some (.ref (ad 27)), some (.int x1), some (.int x2), some (.int x3), some (.int (1 : Int32))] := hl
  exact w_M_turnInto_3 X K hr hk fz fz x1 x2 x3 (1 : Int32) h ρ hρ hp hl hw
set_option maxRecDepth 100000 in
theorem c_M_turnInto (l : Launch) (D : va_G) (cI cZ : ClassId) (base : Nat) (ad : Nat → Nat) (fz : Nat) (x1 : Int32) (x2 : Int32) (x3 : Int32) (h : HH) (hp : P_M_turnInto fz x1 x2 x3 h) : Ct l D cI cZ base ad y_M_turnInto b_M_turnInto 5 none 0 0 [.ref (ad 27), .int x1, .int x2, .int x3] h (pH (B_M_turnInto fz x1 x2 x3 h)) := by
  refine Ct.of (by decide) (Nat.le_of_ble_eq_true rfl) (cat_ok rfl) ?_
  intro p e s m args below meth c ls X K hr hk hl hw
  exact w_M_turnInto fz x1 x2 x3 h _ rfl hp X K hr hk hl hw
set_option maxHeartbeats 4000000 in
set_option maxRecDepth 100000 in
theorem w_M_endIfEmpty_37 (fz : Nat) (x1 : Int32) (h : HH) (ρ : HH) (hρ : B_M_endIfEmpty_37 fz x1 h = ρ) (hp : P_M_endIfEmpty_37 fz x1 h) (X : CallFix p m c b_M_endIfEmpty 2 s args TB R_M) (K : KK D cI cZ s) (hr : meth.sig.returnType = none) (hk : meth.locks = false) {ls : Array Slot} {H : Heap} {locs : List Loc} (hl : Lc ls 2 [some (.ref (ad 27)), some (.int x1)]) (hw : Hw D cI cZ base ad s shape h H locs) : W p l e (rmD 1 25) s m args below meth c H locs 0 0 (MQ below (Qw D cI cZ base ad (pH ρ)) args s 0 0 (fun q => base ≤ q)) (F0 m 37 ls []) := by
  unfold B_M_endIfEmpty_37 at hρ
  unfold P_M_endIfEmpty_37 at hp
  refine lv_aload_n X.1 X.2.1 d_M_endIfEmpty_37 rfl (hl.at 0 rfl) ?_
  refine lv_iload_n X.1 X.2.1 d_M_endIfEmpty_38 rfl (hl.at 1 rfl) ?_
  refine lv_iconst (v := (5 : Int32)) X.1 X.2.1 d_M_endIfEmpty_39 (by decide) ?_
  refine lv_aload_n X.1 X.2.1 d_M_endIfEmpty_40 rfl (hl.at 0 rfl) ?_
  refine r_getr (j := 38) X K hw fg_M_41 rfl rfl d_M_endIfEmpty_41 ?_
  refine lv_iload_n X.1 X.2.1 d_M_endIfEmpty_44 rfl (hl.at 1 rfl) ?_
  refine r_ald X K hw rfl hp.1 d_M_endIfEmpty_45 ?_
  have hp := hp.2
  refine lv_iconst (v := (0 : Int32)) X.1 X.2.1 d_M_endIfEmpty_46 (by decide) ?_
  refine r_callV (rest := []) X K hw hl.1 mf_M_105 rfl rfl rfl (c_M_send l D cI cZ base ad fz x1 (5 : Int32) (h 38 (ix x1)) (0 : Int32) h hp.1) (by decide) ⟨Nat.le_refl _, Nat.le_refl _⟩ rfl rfl (Nat.le_of_ble_eq_true rfl) d_M_endIfEmpty_47 (fun v h' H locs q hw => ?_)
  obtain ⟨rfl, rfl⟩ := q
  have hp := hp.2
  exact r_vret X hr hk hw ⟨rfl, hρ.symm⟩ d_M_endIfEmpty_50
set_option maxHeartbeats 4000000 in
set_option maxRecDepth 100000 in
theorem w_M_endIfEmpty_30 (fz : Nat) (x1 : Int32) (h : HH) (ρ : HH) (hρ : B_M_endIfEmpty_30 fz x1 h = ρ) (hp : P_M_endIfEmpty_30 fz x1 h) (X : CallFix p m c b_M_endIfEmpty 2 s args TB R_M) (K : KK D cI cZ s) (hr : meth.sig.returnType = none) (hk : meth.locks = false) {ls : Array Slot} {H : Heap} {locs : List Loc} (hl : Lc ls 2 [some (.ref (ad 27)), some (.int x1)]) (hw : Hw D cI cZ base ad s shape h H locs) : W p l e (rmD 1 25) s m args below meth c H locs 0 0 (MQ below (Qw D cI cZ base ad (pH ρ)) args s 0 0 (fun q => base ≤ q)) (F0 m 30 ls []) := by
  unfold B_M_endIfEmpty_30 at hρ
  unfold P_M_endIfEmpty_30 at hp
  refine lv_aload_n X.1 X.2.1 d_M_endIfEmpty_30 rfl (hl.at 0 rfl) ?_
  refine lv_iload_n X.1 X.2.1 d_M_endIfEmpty_31 rfl (hl.at 1 rfl) ?_
  refine lv_iconst (v := (3 : Int32)) X.1 X.2.1 d_M_endIfEmpty_32 (by decide) ?_
  refine lv_iconst (v := (2 : Int32)) X.1 X.2.1 d_M_endIfEmpty_33 (by decide) ?_
  refine r_callV (rest := []) X K hw hl.1 mf_M_101 rfl rfl rfl (c_M_turnInto l D cI cZ base ad fz x1 (3 : Int32) (2 : Int32) h hp.1) (by decide) ⟨Nat.le_refl _, Nat.le_refl _⟩ rfl rfl (Nat.le_of_ble_eq_true rfl) d_M_endIfEmpty_34 (fun v h' H locs q hw => ?_)
  obtain ⟨rfl, rfl⟩ := q
  have hp := hp.2
  exact w_M_endIfEmpty_37 fz x1 (B_M_turnInto fz x1 (3 : Int32) (2 : Int32) h) ρ hρ hp X K hr hk hl hw
set_option maxHeartbeats 4000000 in
set_option maxRecDepth 100000 in
theorem w_M_endIfEmpty (fz : Nat) (x1 : Int32) (h : HH) (ρ : HH) (hρ : B_M_endIfEmpty fz x1 h = ρ) (hp : P_M_endIfEmpty fz x1 h) (X : CallFix p m c b_M_endIfEmpty 2 s args TB R_M) (K : KK D cI cZ s) (hr : meth.sig.returnType = none) (hk : meth.locks = false) {ls : Array Slot} {H : Heap} {locs : List Loc} (hl : Lc ls 2 [some (.ref (ad 27)), some (.int x1)]) (hw : Hw D cI cZ base ad s shape h H locs) : W p l e (rmD 1 25) s m args below meth c H locs 0 0 (MQ below (Qw D cI cZ base ad (pH ρ)) args s 0 0 (fun q => base ≤ q)) (F0 m 0 ls []) := by
  unfold B_M_endIfEmpty at hρ
  unfold P_M_endIfEmpty at hp
  refine lv_aload_n X.1 X.2.1 d_M_endIfEmpty_0 rfl (hl.at 0 rfl) ?_
  refine lv_iload_n X.1 X.2.1 d_M_endIfEmpty_1 rfl (hl.at 1 rfl) ?_
  refine r_callV (rest := []) X K hw hl.1 mf_M_97 rfl rfl rfl (c_M_nothingInMap l D cI cZ base ad fz x1 h hp.1) (by decide) ⟨Nat.le_refl _, Nat.le_refl _⟩ rfl rfl (Nat.le_of_ble_eq_true rfl) d_M_endIfEmpty_2 (fun v h' H locs q hw => ?_)
  obtain ⟨rfl, rfl⟩ := q
  have hp := hp.2
  refine lv_if_ne (tgt := 9) X.1 X.2.1 d_M_endIfEmpty_5 (by decide) (fun g => ?_) (fun g => ?_)
  · rw [if_neg g] at hρ
    have hp := hp.2 g
    refine lv_aload_n X.1 X.2.1 d_M_endIfEmpty_9 rfl (hl.at 0 rfl) ?_
    refine r_getr (j := 44) X K hw fg_M_63 rfl rfl d_M_endIfEmpty_10 ?_
    refine lv_iload_n X.1 X.2.1 d_M_endIfEmpty_13 rfl (hl.at 1 rfl) ?_
    refine lv_iconst (v := (0 : Int32)) X.1 X.2.1 d_M_endIfEmpty_14 (by decide) ?_
    refine r_astz X K hw rfl hp.1 (by decide) d_M_endIfEmpty_15 (fun H locs hw => ?_)
    have hp := hp.2
    refine lv_aload_n X.1 X.2.1 d_M_endIfEmpty_16 rfl (hl.at 0 rfl) ?_
    refine r_getr (j := 41) X K hw fg_M_54 rfl rfl d_M_endIfEmpty_17 ?_
    refine lv_iload_n X.1 X.2.1 d_M_endIfEmpty_20 rfl (hl.at 1 rfl) ?_
    refine lv_iconst (v := (0 : Int32)) X.1 X.2.1 d_M_endIfEmpty_21 (by decide) ?_
    refine r_astz X K hw rfl hp.1 (by decide) d_M_endIfEmpty_22 (fun H locs hw => ?_)
    have hp := hp.2
    refine lv_aload_n X.1 X.2.1 d_M_endIfEmpty_23 rfl (hl.at 0 rfl) ?_
    refine r_getr (j := 39) X K hw fg_M_44 rfl rfl d_M_endIfEmpty_24 ?_
    refine lv_iload_n X.1 X.2.1 d_M_endIfEmpty_27 rfl (hl.at 1 rfl) ?_
    refine lv_iconst (v := (0 : Int32)) X.1 X.2.1 d_M_endIfEmpty_28 (by decide) ?_
    refine r_ast X K hw rfl hp.1 d_M_endIfEmpty_29 (fun H locs hw => ?_)
    have hp := hp.2
    exact w_M_endIfEmpty_30 fz x1 (u2 (u2 (u2 h 44 (ix x1) (0 : Int32)) 41 (ix x1) (0 : Int32)) 39 (ix x1) (0 : Int32)) ρ hρ hp X K hr hk hl hw
  · rw [if_pos g] at hρ
    have hp := hp.1 g
    exact r_vret X hr hk hw ⟨rfl, hρ.symm⟩ d_M_endIfEmpty_8
set_option maxRecDepth 100000 in
theorem c_M_endIfEmpty (l : Launch) (D : va_G) (cI cZ : ClassId) (base : Nat) (ad : Nat → Nat) (fz : Nat) (x1 : Int32) (h : HH) (hp : P_M_endIfEmpty fz x1 h) : Ct l D cI cZ base ad y_M_endIfEmpty b_M_endIfEmpty 2 none 1 25 [.ref (ad 27), .int x1] h (pH (B_M_endIfEmpty fz x1 h)) := by
  refine Ct.of (by decide) (Nat.le_of_ble_eq_true rfl) (cat_ok rfl) ?_
  intro p e s m args below meth c ls X K hr hk hl hw
  exact w_M_endIfEmpty fz x1 h _ rfl hp X K hr hk hl hw
set_option maxHeartbeats 4000000 in
set_option maxRecDepth 100000 in
theorem w_M_breakLink_41 (X : CallFix p m c b_M_breakLink 2 s args TB R_M) (K : KK D cI cZ s) (hr : meth.sig.returnType = none) (hk : meth.locks = false) (fz : Nat) : ∀ (fu : Nat) (x1 : Int32) (h : HH) (ρ : HH) (_ : B_M_breakLink_41 fz fu x1 h = ρ) (_ : P_M_breakLink_41 fz fu x1 h) {ls : Array Slot} {H : Heap} {locs : List Loc} (_ : Lc ls 2 [some (.ref (ad 27)), some (.int x1)]) (_ : Hw D cI cZ base ad s shape h H locs), W p l e (rmD 1 22) s m args below meth c H locs 0 0 (MQ below (Qw D cI cZ base ad (pH ρ)) args s 0 0 (fun q => base ≤ q)) (F0 m 41 ls []) := by
  intro fu
  induction fu with
  | zero =>
    intro x1 h ρ hρ hp ls H locs hl hw
    exact hp.elim
  | succ fu ih =>
    intro x1 h ρ hρ hp ls H locs hl hw
    rw [B_M_breakLink_41] at hρ
    rw [P_M_breakLink_41] at hp
    refine lv_iload_n X.1 X.2.1 d_M_breakLink_41 rfl (hl.at 1 rfl) ?_
    refine lv_aload_n X.1 X.2.1 d_M_breakLink_42 rfl (hl.at 0 rfl) ?_
    refine r_geti X K hw fg_M_87 rfl rfl d_M_breakLink_43 ?_
    refine lv_icmp_gt (tgt := 77) X.1 X.2.1 d_M_breakLink_46 (by decide) (fun g => ?_) (fun g => ?_)
    · rw [if_pos g] at hρ
      have hp := hp.1 g
      exact r_vret X hr hk hw ⟨rfl, hρ.symm⟩ d_M_breakLink_77
    · rw [if_neg g] at hρ
      have hp := hp.2 g
      refine lv_aload_n X.1 X.2.1 d_M_breakLink_49 rfl (hl.at 0 rfl) ?_
      refine r_getr (j := 33) X K hw fg_M_25 rfl rfl d_M_breakLink_50 ?_
      refine lv_iload_n X.1 X.2.1 d_M_breakLink_53 rfl (hl.at 1 rfl) ?_
      refine lv_iconst (v := (0 : Int32)) X.1 X.2.1 d_M_breakLink_54 (by decide) ?_
      refine r_astz X K hw rfl hp.1 (by decide) d_M_breakLink_55 (fun H locs hw => ?_)
      have hp := hp.2
      refine lv_aload_n X.1 X.2.1 d_M_breakLink_56 rfl (hl.at 0 rfl) ?_
      refine r_getr (j := 32) X K hw fg_M_22 rfl rfl d_M_breakLink_57 ?_
      refine lv_iload_n X.1 X.2.1 d_M_breakLink_60 rfl (hl.at 1 rfl) ?_
      refine r_ald X K hw rfl hp.1 d_M_breakLink_61 ?_
      have hp := hp.2
      refine lv_iconst (v := (1 : Int32)) X.1 X.2.1 d_M_breakLink_62 (by decide) ?_
      refine lv_icmp_ne (tgt := 71) X.1 X.2.1 d_M_breakLink_63 (by decide) (fun g => ?_) (fun g => ?_)
      · rw [if_neg g] at hρ
        have hp := hp.2 g
        refine lv_iincL X.1 X.2.1 hl (v := (x1 + 1)) d_M_breakLink_71 rfl (congrArg (fun z => x1 + z) (by decide)) (by decide) (fun ls hl => ?_)
        have hl : Lc ls 2 [some (.ref (ad 27)), some (.int (x1 + 1))] := hl
        refine lv_goto (tgt := 41) X.1 X.2.1 d_M_breakLink_74 (by decide) ?_
        exact ih (x1 + 1) (u2 h 33 (ix x1) (0 : Int32)) ρ hρ hp hl hw
      · rw [if_pos g] at hρ
        have hp := hp.1 g
        refine lv_aload_n X.1 X.2.1 d_M_breakLink_66 rfl (hl.at 0 rfl) ?_
        refine lv_iload_n X.1 X.2.1 d_M_breakLink_67 rfl (hl.at 1 rfl) ?_
        refine r_callV (rest := []) X K hw hl.1 mf_M_113 rfl rfl rfl (c_M_alone l D cI cZ base ad fz x1 (u2 h 33 (ix x1) (0 : Int32)) hp.1) (by decide) ⟨Nat.le_refl _, Nat.le_refl _⟩ rfl rfl (Nat.le_of_ble_eq_true rfl) d_M_breakLink_68 (fun v h' H locs q hw => ?_)
        obtain ⟨rfl, rfl⟩ := q
        have hp := hp.2
        refine lv_iincL X.1 X.2.1 hl (v := (x1 + 1)) d_M_breakLink_71 rfl (congrArg (fun z => x1 + z) (by decide)) (by decide) (fun ls hl => ?_)
        have hl : Lc ls 2 [some (.ref (ad 27)), some (.int (x1 + 1))] := hl
        refine lv_goto (tgt := 41) X.1 X.2.1 d_M_breakLink_74 (by decide) ?_
        exact ih (x1 + 1) (B_M_alone fz x1 (u2 h 33 (ix x1) (0 : Int32))) ρ hρ hp hl hw
set_option maxHeartbeats 4000000 in
set_option maxRecDepth 100000 in
theorem w_M_breakLink_7 (X : CallFix p m c b_M_breakLink 2 s args TB R_M) (K : KK D cI cZ s) (hr : meth.sig.returnType = none) (hk : meth.locks = false) (fz : Nat) : ∀ (fu : Nat) (x1 : Int32) (h : HH) (ρ : HH) (_ : B_M_breakLink_7 fz fu x1 h = ρ) (_ : P_M_breakLink_7 fz fu x1 h) {ls : Array Slot} {H : Heap} {locs : List Loc} (_ : Lc ls 2 [some (.ref (ad 27)), some (.int x1)]) (_ : Hw D cI cZ base ad s shape h H locs), W p l e (rmD 1 22) s m args below meth c H locs 0 0 (MQ below (Qw D cI cZ base ad (pH ρ)) args s 0 0 (fun q => base ≤ q)) (F0 m 7 ls []) := by
  intro fu
  induction fu with
  | zero =>
    intro x1 h ρ hρ hp ls H locs hl hw
    exact hp.elim
  | succ fu ih =>
    intro x1 h ρ hρ hp ls H locs hl hw
    rw [B_M_breakLink_7] at hρ
    rw [P_M_breakLink_7] at hp
    refine lv_iload_n X.1 X.2.1 d_M_breakLink_7 rfl (hl.at 1 rfl) ?_
    refine lv_iconst (v := (2 : Int32)) X.1 X.2.1 d_M_breakLink_8 (by decide) ?_
    refine lv_icmp_ge (tgt := 39) X.1 X.2.1 d_M_breakLink_9 (by decide) (fun g => ?_) (fun g => ?_)
    · rw [if_pos g] at hρ
      have hp := hp.1 g
      refine lv_iconst (v := (1 : Int32)) X.1 X.2.1 d_M_breakLink_39 (by decide) ?_
      refine r_istore_n X hl d_M_breakLink_40 rfl (by decide) (fun ls hl => ?_)
      have hl : Lc ls 2 [some (.ref (ad 27)), some (.int (1 : Int32))] := hl
      exact w_M_breakLink_41 X K hr hk fz fz (1 : Int32) h ρ hρ hp hl hw
    · rw [if_neg g] at hρ
      have hp := hp.2 g
      refine lv_aload_n X.1 X.2.1 d_M_breakLink_12 rfl (hl.at 0 rfl) ?_
      refine r_getr (j := 51) X K hw fg_M_84 rfl rfl d_M_breakLink_13 ?_
      refine lv_iload_n X.1 X.2.1 d_M_breakLink_16 rfl (hl.at 1 rfl) ?_
      refine lv_iconst (v := (0 : Int32)) X.1 X.2.1 d_M_breakLink_17 (by decide) ?_
      refine r_ast X K hw rfl hp.1 d_M_breakLink_18 (fun H locs hw => ?_)
      have hp := hp.2
      refine lv_aload_n X.1 X.2.1 d_M_breakLink_19 rfl (hl.at 0 rfl) ?_
      refine r_getr (j := 44) X K hw fg_M_63 rfl rfl d_M_breakLink_20 ?_
      refine lv_iload_n X.1 X.2.1 d_M_breakLink_23 rfl (hl.at 1 rfl) ?_
      refine lv_iconst (v := (0 : Int32)) X.1 X.2.1 d_M_breakLink_24 (by decide) ?_
      refine r_astz X K hw rfl hp.1 (by decide) d_M_breakLink_25 (fun H locs hw => ?_)
      have hp := hp.2
      refine lv_aload_n X.1 X.2.1 d_M_breakLink_26 rfl (hl.at 0 rfl) ?_
      refine r_getr (j := 45) X K hw fg_M_66 rfl rfl d_M_breakLink_27 ?_
      refine lv_iload_n X.1 X.2.1 d_M_breakLink_30 rfl (hl.at 1 rfl) ?_
      refine lv_iconst (v := (0 : Int32)) X.1 X.2.1 d_M_breakLink_31 (by decide) ?_
      refine r_astz X K hw rfl hp.1 (by decide) d_M_breakLink_32 (fun H locs hw => ?_)
      have hp := hp.2
      refine lv_iincL X.1 X.2.1 hl (v := (x1 + 1)) d_M_breakLink_33 rfl (congrArg (fun z => x1 + z) (by decide)) (by decide) (fun ls hl => ?_)
      have hl : Lc ls 2 [some (.ref (ad 27)), some (.int (x1 + 1))] := hl
      refine lv_goto (tgt := 7) X.1 X.2.1 d_M_breakLink_36 (by decide) ?_
      exact ih (x1 + 1) (u2 (u2 (u2 h 51 (ix x1) (0 : Int32)) 44 (ix x1) (0 : Int32)) 45 (ix x1) (0 : Int32)) ρ hρ hp hl hw
set_option maxHeartbeats 4000000 in
set_option maxRecDepth 100000 in
theorem w_M_breakLink (fz : Nat)  (h : HH) (ρ : HH) (hρ : B_M_breakLink fz  h = ρ) (hp : P_M_breakLink fz  h) (X : CallFix p m c b_M_breakLink 2 s args TB R_M) (K : KK D cI cZ s) (hr : meth.sig.returnType = none) (hk : meth.locks = false) {ls : Array Slot} {H : Heap} {locs : List Loc} (hl : Lc ls 2 [some (.ref (ad 27)), none]) (hw : Hw D cI cZ base ad s shape h H locs) : W p l e (rmD 1 22) s m args below meth c H locs 0 0 (MQ below (Qw D cI cZ base ad (pH ρ)) args s 0 0 (fun q => base ≤ q)) (F0 m 0 ls []) := by
  unfold B_M_breakLink at hρ
  unfold P_M_breakLink at hp
  refine lv_aload_n X.1 X.2.1 d_M_breakLink_0 rfl (hl.at 0 rfl) ?_
  refine lv_iconst (v := (0 : Int32)) X.1 X.2.1 d_M_breakLink_1 (by decide) ?_
  refine r_put X K hw fp_M_109 rfl rfl (by decide) (by decide) d_M_breakLink_2 (fun H locs hw => ?_)
  refine lv_iconst (v := (0 : Int32)) X.1 X.2.1 d_M_breakLink_5 (by decide) ?_
  refine r_istore_n X hl d_M_breakLink_6 rfl (by decide) (fun ls hl => ?_)
  have hl : Lc ls 2 [some (.ref (ad 27)), some (.int (0 : Int32))] := hl
  exact w_M_breakLink_7 X K hr hk fz fz (0 : Int32) (u2 h 27 23 (0 : Int32)) ρ hρ hp hl hw
set_option maxRecDepth 100000 in
theorem c_M_breakLink (l : Launch) (D : va_G) (cI cZ : ClassId) (base : Nat) (ad : Nat → Nat) (fz : Nat)  (h : HH) (hp : P_M_breakLink fz  h) : Ct l D cI cZ base ad y_M_breakLink b_M_breakLink 2 none 1 22 [.ref (ad 27)] h (pH (B_M_breakLink fz  h)) := by
  refine Ct.of (by decide) (Nat.le_of_ble_eq_true rfl) (cat_ok rfl) ?_
  intro p e s m args below meth c ls X K hr hk hl hw
  exact w_M_breakLink fz  h _ rfl hp X K hr hk hl hw
set_option maxHeartbeats 4000000 in
set_option maxRecDepth 100000 in
theorem w_M_write_298 (fz : Nat) (x1 : Int32) (x6 : Int32) (h : HH) (ρ : Int32 × HH) (hρ : B_M_write_298 fz x1 x6 h = ρ) (hp : P_M_write_298 fz x1 x6 h) (X : CallFix p m c b_M_write 7 s args TB R_M) (K : KK D cI cZ s) (hr : meth.sig.returnType = (some .int)) (hk : meth.locks = false) {ls : Array Slot} {H : Heap} {locs : List Loc} (hl : Lc ls 7 [some (.ref (ad 27)), some (.int x1), none, none, none, none, some (.int x6)]) (hw : Hw D cI cZ base ad s shape h H locs) : W p l e (rmD 2 48) s m args below meth c H locs 0 0 (MQ below (Qw D cI cZ base ad (pIH ρ)) args s 0 0 (fun q => base ≤ q)) (F0 m 298 ls []) := by
  unfold B_M_write_298 at hρ
  unfold P_M_write_298 at hp
  refine lv_aload_n X.1 X.2.1 d_M_write_298 rfl (hl.at 0 rfl) ?_
  refine lv_iload_n X.1 X.2.1 d_M_write_299 rfl (hl.at 1 rfl) ?_
  refine lv_iconst (v := (1 : Int32)) X.1 X.2.1 d_M_write_300 (by decide) ?_
  refine lv_iload X.1 X.2.1 d_M_write_301 (hl.at 6 rfl) ?_
  refine lv_iconst (v := (0 : Int32)) X.1 X.2.1 d_M_write_303 (by decide) ?_
  refine r_callV (rest := []) X K hw hl.1 mf_M_105 rfl rfl rfl (c_M_send l D cI cZ base ad fz x1 (1 : Int32) x6 (0 : Int32) h hp.1) (by decide) ⟨Nat.le_refl _, Nat.le_refl _⟩ rfl rfl (Nat.le_of_ble_eq_true rfl) d_M_write_304 (fun v h' H locs q hw => ?_)
  obtain ⟨rfl, rfl⟩ := q
  have hp := hp.2
  refine lv_goto (tgt := 316) X.1 X.2.1 d_M_write_307 (by decide) ?_
  refine lv_iload X.1 X.2.1 d_M_write_316 (hl.at 6 rfl) ?_
  exact r_iret X hr hk hw ⟨congrArg (fun z => some (Value.int z.1)) hρ, (congrArg Prod.snd hρ).symm⟩ d_M_write_318
set_option maxHeartbeats 4000000 in
set_option maxRecDepth 100000 in
theorem w_M_write_283 (fz : Nat) (x1 : Int32) (x6 : Int32) (h : HH) (ρ : Int32 × HH) (hρ : B_M_write_283 fz x1 x6 h = ρ) (hp : P_M_write_283 fz x1 x6 h) (X : CallFix p m c b_M_write 7 s args TB R_M) (K : KK D cI cZ s) (hr : meth.sig.returnType = (some .int)) (hk : meth.locks = false) {ls : Array Slot} {H : Heap} {locs : List Loc} (hl : Lc ls 7 [some (.ref (ad 27)), some (.int x1), none, none, none, none, some (.int x6)]) (hw : Hw D cI cZ base ad s shape h H locs) : W p l e (rmD 2 48) s m args below meth c H locs 0 0 (MQ below (Qw D cI cZ base ad (pIH ρ)) args s 0 0 (fun q => base ≤ q)) (F0 m 283 ls []) := by
  unfold B_M_write_283 at hρ
  unfold P_M_write_283 at hp
  refine lv_aload_n X.1 X.2.1 d_M_write_283 rfl (hl.at 0 rfl) ?_
  refine r_geti X K hw fg_M_109 rfl rfl d_M_write_284 ?_
  refine lv_if_eq (tgt := 310) X.1 X.2.1 d_M_write_287 (by decide) (fun g => ?_) (fun g => ?_)
  · rw [if_pos g] at hρ
    have hp := hp.1 g
    refine lv_aload_n X.1 X.2.1 d_M_write_310 rfl (hl.at 0 rfl) ?_
    refine lv_iload X.1 X.2.1 d_M_write_311 (hl.at 6 rfl) ?_
    refine r_callV (rest := []) X K hw hl.1 mf_M_113 rfl rfl rfl (c_M_alone l D cI cZ base ad fz x6 h hp.1) (by decide) ⟨Nat.le_refl _, Nat.le_refl _⟩ rfl rfl (Nat.le_of_ble_eq_true rfl) d_M_write_313 (fun v h' H locs q hw => ?_)
    obtain ⟨rfl, rfl⟩ := q
    have hp := hp.2
    refine lv_iload X.1 X.2.1 d_M_write_316 (hl.at 6 rfl) ?_
    exact r_iret X hr hk hw ⟨congrArg (fun z => some (Value.int z.1)) hρ, (congrArg Prod.snd hρ).symm⟩ d_M_write_318
  · rw [if_neg g] at hρ
    have hp := hp.2 g
    refine lv_aload_n X.1 X.2.1 d_M_write_290 rfl (hl.at 0 rfl) ?_
    refine r_getr (j := 32) X K hw fg_M_22 rfl rfl d_M_write_291 ?_
    refine lv_iload X.1 X.2.1 d_M_write_294 (hl.at 6 rfl) ?_
    refine lv_iconst (v := (1 : Int32)) X.1 X.2.1 d_M_write_296 (by decide) ?_
    refine r_ast X K hw rfl hp.1 d_M_write_297 (fun H locs hw => ?_)
    have hp := hp.2
    exact w_M_write_298 fz x1 x6 (u2 h 32 (ix x6) (1 : Int32)) ρ hρ hp X K hr hk hl hw
set_option maxHeartbeats 4000000 in
set_option maxRecDepth 100000 in
theorem w_M_write_254 (fz : Nat) (x1 : Int32) (x2 : Int32) (x3 : Int32) (x6 : Int32) (y1 : Int32) (y2 : Int32) (y3 : Int32) (h : HH) (ρ : Int32 × HH) (hρ : B_M_write_254 fz x1 x2 x3 x6 y1 y2 y3 h = ρ) (hp : P_M_write_254 fz x1 x2 x3 x6 y1 y2 y3 h) (X : CallFix p m c b_M_write 7 s args TB R_M) (K : KK D cI cZ s) (hr : meth.sig.returnType = (some .int)) (hk : meth.locks = false) {ls : Array Slot} {H : Heap} {locs : List Loc} (hl : Lc ls 7 [some (.ref (ad 27)), some (.int x1), some (.int x2), some (.int x3), none, none, some (.int x6)]) (hw : Hw D cI cZ base ad s shape h H locs) : W p l e (rmD 2 48) s m args below meth c H locs 0 0 (MQ below (Qw D cI cZ base ad (pIH ρ)) args s 0 0 (fun q => base ≤ q)) (F0 m 254 ls [.int y3, .int y2, .int y1, .ref (ad 31)]) := by
  unfold B_M_write_254 at hρ
  unfold P_M_write_254 at hp
  refine lv_iadd X.1 X.2.1 d_M_write_254 ?_
  refine r_ast X K hw rfl hp.1 d_M_write_255 (fun H locs hw => ?_)
  have hp := hp.2
  refine lv_aload_n X.1 X.2.1 d_M_write_256 rfl (hl.at 0 rfl) ?_
  refine r_getr (j := 47) X K hw fg_M_72 rfl rfl d_M_write_257 ?_
  refine lv_iload_n X.1 X.2.1 d_M_write_260 rfl (hl.at 1 rfl) ?_
  refine lv_iload X.1 X.2.1 d_M_write_261 (hl.at 6 rfl) ?_
  refine r_ast X K hw rfl hp.1 d_M_write_263 (fun H locs hw => ?_)
  have hp := hp.2
  refine lv_aload_n X.1 X.2.1 d_M_write_264 rfl (hl.at 0 rfl) ?_
  refine r_getr (j := 46) X K hw fg_M_69 rfl rfl d_M_write_265 ?_
  refine lv_iload_n X.1 X.2.1 d_M_write_268 rfl (hl.at 1 rfl) ?_
  refine lv_iconst (v := (0 : Int32)) X.1 X.2.1 d_M_write_269 (by decide) ?_
  refine r_astz X K hw rfl hp.1 (by decide) d_M_write_270 (fun H locs hw => ?_)
  have hp := hp.2
  refine lv_aload_n X.1 X.2.1 d_M_write_271 rfl (hl.at 0 rfl) ?_
  refine r_getr (j := 34) X K hw fg_M_29 rfl rfl d_M_write_272 ?_
  refine lv_bipush (v := (32 : Int32)) X.1 X.2.1 d_M_write_275 (by decide) ?_
  refine lv_iload_n X.1 X.2.1 d_M_write_277 rfl (hl.at 1 rfl) ?_
  refine lv_imul X.1 X.2.1 d_M_write_278 ?_
  refine lv_iload_n X.1 X.2.1 d_M_write_279 rfl (hl.at 2 rfl) ?_
  refine lv_iadd X.1 X.2.1 d_M_write_280 ?_
  refine lv_iload_n X.1 X.2.1 d_M_write_281 rfl (hl.at 3 rfl) ?_
  refine r_ast X K hw rfl hp.1 d_M_write_282 (fun H locs hw => ?_)
  have hp := hp.2
  have hl : Lc ls 7 [some (.ref (ad 27)), some (.int x1), none, none, none, none, some (.int x6)] := hl.mask [true, true, false, false, false, false, true]
  exact w_M_write_283 fz x1 x6 (u2 (u2 (u2 (u2 h 31 (ix y1) (y2 + y3)) 47 (ix x1) x6) 46 (ix x1) (0 : Int32)) 34 (ix (((32 : Int32) * x1) + x2)) x3) ρ hρ hp X K hr hk hl hw
set_option maxHeartbeats 4000000 in
set_option maxRecDepth 100000 in
theorem w_M_write_227 (fz : Nat) (x1 : Int32) (x2 : Int32) (x3 : Int32) (x5 : Int32) (x6 : Int32) (h : HH) (ρ : Int32 × HH) (hρ : B_M_write_227 fz x1 x2 x3 x5 x6 h = ρ) (hp : P_M_write_227 fz x1 x2 x3 x5 x6 h) (X : CallFix p m c b_M_write 7 s args TB R_M) (K : KK D cI cZ s) (hr : meth.sig.returnType = (some .int)) (hk : meth.locks = false) {ls : Array Slot} {H : Heap} {locs : List Loc} (hl : Lc ls 7 [some (.ref (ad 27)), some (.int x1), some (.int x2), some (.int x3), none, some (.int x5), some (.int x6)]) (hw : Hw D cI cZ base ad s shape h H locs) : W p l e (rmD 2 48) s m args below meth c H locs 0 0 (MQ below (Qw D cI cZ base ad (pIH ρ)) args s 0 0 (fun q => base ≤ q)) (F0 m 227 ls []) := by
  unfold B_M_write_227 at hρ
  unfold P_M_write_227 at hp
  refine lv_aload_n X.1 X.2.1 d_M_write_227 rfl (hl.at 0 rfl) ?_
  refine r_getr (j := 31) X K hw fg_M_19 rfl rfl d_M_write_228 ?_
  refine lv_iload X.1 X.2.1 d_M_write_231 (hl.at 6 rfl) ?_
  refine lv_aload_n X.1 X.2.1 d_M_write_233 rfl (hl.at 0 rfl) ?_
  refine r_getr (j := 31) X K hw fg_M_19 rfl rfl d_M_write_234 ?_
  refine lv_aload_n X.1 X.2.1 d_M_write_237 rfl (hl.at 0 rfl) ?_
  refine r_getr (j := 47) X K hw fg_M_72 rfl rfl d_M_write_238 ?_
  refine lv_iload_n X.1 X.2.1 d_M_write_241 rfl (hl.at 1 rfl) ?_
  refine r_ald X K hw rfl hp.1 d_M_write_242 ?_
  have hp := hp.2
  refine r_ald X K hw rfl hp.1 d_M_write_243 ?_
  have hp := hp.2
  refine lv_iload X.1 X.2.1 d_M_write_244 (hl.at 5 rfl) ?_
  refine lv_if_eq (tgt := 253) X.1 X.2.1 d_M_write_246 (by decide) (fun g => ?_) (fun g => ?_)
  · rw [if_pos g] at hρ
    have hp := hp.1 g
    refine lv_iconst (v := (0 : Int32)) X.1 X.2.1 d_M_write_253 (by decide) ?_
    have hl : Lc ls 7 [some (.ref (ad 27)), some (.int x1), some (.int x2), some (.int x3), none, none, some (.int x6)] := hl.mask [true, true, true, true, false, false, true]
    exact w_M_write_254 fz x1 x2 x3 x6 x6 (h 31 (ix (h 47 (ix x1)))) (0 : Int32) h ρ hρ hp X K hr hk hl hw
  · rw [if_neg g] at hρ
    have hp := hp.2 g
    refine lv_iconst (v := (1 : Int32)) X.1 X.2.1 d_M_write_249 (by decide) ?_
    refine lv_goto (tgt := 254) X.1 X.2.1 d_M_write_250 (by decide) ?_
    have hl : Lc ls 7 [some (.ref (ad 27)), some (.int x1), some (.int x2), some (.int x3), none, none, some (.int x6)] := hl.mask [true, true, true, true, false, false, true]
    exact w_M_write_254 fz x1 x2 x3 x6 x6 (h 31 (ix (h 47 (ix x1)))) (1 : Int32) h ρ hρ hp X K hr hk hl hw
set_option maxHeartbeats 4000000 in
set_option maxRecDepth 100000 in
theorem w_M_write_197 (fz : Nat) (x1 : Int32) (x2 : Int32) (x3 : Int32) (x5 : Int32) (h : HH) (ρ : Int32 × HH) (hρ : B_M_write_197 fz x1 x2 x3 x5 h = ρ) (hp : P_M_write_197 fz x1 x2 x3 x5 h) (X : CallFix p m c b_M_write 7 s args TB R_M) (K : KK D cI cZ s) (hr : meth.sig.returnType = (some .int)) (hk : meth.locks = false) {ls : Array Slot} {H : Heap} {locs : List Loc} (hl : Lc ls 7 [some (.ref (ad 27)), some (.int x1), some (.int x2), some (.int x3), none, some (.int x5), none]) (hw : Hw D cI cZ base ad s shape h H locs) : W p l e (rmD 2 48) s m args below meth c H locs 0 0 (MQ below (Qw D cI cZ base ad (pIH ρ)) args s 0 0 (fun q => base ≤ q)) (F0 m 197 ls []) := by
  unfold B_M_write_197 at hρ
  unfold P_M_write_197 at hp
  refine lv_aload_n X.1 X.2.1 d_M_write_197 rfl (hl.at 0 rfl) ?_
  refine r_geti X K hw fg_M_87 rfl rfl d_M_write_198 ?_
  refine r_istore X hl d_M_write_201 (by decide) (fun ls hl => ?_)
  have hl : Lc ls 7 [some (.ref (ad 27)), some (.int x1), some (.int x2), some (.int x3), none, some (.int x5), some (.int (h 27 0))] := hl
  refine lv_aload_n X.1 X.2.1 d_M_write_203 rfl (hl.at 0 rfl) ?_
  refine r_getr (j := 28) X K hw fg_M_7 rfl rfl d_M_write_204 ?_
  refine lv_iload X.1 X.2.1 d_M_write_207 (hl.at 6 rfl) ?_
  refine lv_iload_n X.1 X.2.1 d_M_write_209 rfl (hl.at 1 rfl) ?_
  refine r_ast X K hw rfl hp.1 d_M_write_210 (fun H locs hw => ?_)
  have hp := hp.2
  refine lv_aload_n X.1 X.2.1 d_M_write_211 rfl (hl.at 0 rfl) ?_
  refine r_getr (j := 29) X K hw fg_M_13 rfl rfl d_M_write_212 ?_
  refine lv_iload X.1 X.2.1 d_M_write_215 (hl.at 6 rfl) ?_
  refine lv_iload_n X.1 X.2.1 d_M_write_217 rfl (hl.at 2 rfl) ?_
  refine r_ast X K hw rfl hp.1 d_M_write_218 (fun H locs hw => ?_)
  have hp := hp.2
  refine lv_aload_n X.1 X.2.1 d_M_write_219 rfl (hl.at 0 rfl) ?_
  refine r_getr (j := 30) X K hw fg_M_16 rfl rfl d_M_write_220 ?_
  refine lv_iload X.1 X.2.1 d_M_write_223 (hl.at 6 rfl) ?_
  refine lv_iload_n X.1 X.2.1 d_M_write_225 rfl (hl.at 3 rfl) ?_
  refine r_ast X K hw rfl hp.1 d_M_write_226 (fun H locs hw => ?_)
  have hp := hp.2
  exact w_M_write_227 fz x1 x2 x3 x5 (h 27 0) (u2 (u2 (u2 h 28 (ix (h 27 0)) x1) 29 (ix (h 27 0)) x2) 30 (ix (h 27 0)) x3) ρ hρ hp X K hr hk hl hw
set_option maxHeartbeats 4000000 in
set_option maxRecDepth 100000 in
theorem w_M_write_185 (fz : Nat) (x1 : Int32) (x2 : Int32) (x3 : Int32) (y0 : Int32) (h : HH) (ρ : Int32 × HH) (hρ : B_M_write_185 fz x1 x2 x3 y0 h = ρ) (hp : P_M_write_185 fz x1 x2 x3 y0 h) (X : CallFix p m c b_M_write 7 s args TB R_M) (K : KK D cI cZ s) (hr : meth.sig.returnType = (some .int)) (hk : meth.locks = false) {ls : Array Slot} {H : Heap} {locs : List Loc} (hl : Lc ls 7 [some (.ref (ad 27)), some (.int x1), some (.int x2), some (.int x3), none, none, none]) (hw : Hw D cI cZ base ad s shape h H locs) : W p l e (rmD 2 48) s m args below meth c H locs 0 0 (MQ below (Qw D cI cZ base ad (pIH ρ)) args s 0 0 (fun q => base ≤ q)) (F0 m 185 ls [.int y0]) := by
  unfold B_M_write_185 at hρ
  unfold P_M_write_185 at hp
  refine r_istore X hl d_M_write_185 (by decide) (fun ls hl => ?_)
  have hl : Lc ls 7 [some (.ref (ad 27)), some (.int x1), some (.int x2), some (.int x3), none, some (.int y0), none] := hl
  refine lv_aload_n X.1 X.2.1 d_M_write_187 rfl (hl.at 0 rfl) ?_
  refine lv_dup X.1 X.2.1 d_M_write_188 rfl ?_
  refine r_geti X K hw fg_M_87 rfl rfl d_M_write_189 ?_
  refine lv_iconst (v := (1 : Int32)) X.1 X.2.1 d_M_write_192 (by decide) ?_
  refine lv_iadd X.1 X.2.1 d_M_write_193 ?_
  refine r_put X K hw fp_M_87 rfl rfl rfl rfl d_M_write_194 (fun H locs hw => ?_)
  exact w_M_write_197 fz x1 x2 x3 y0 (u2 h 27 0 ((h 27 0) + (1 : Int32))) ρ hρ hp X K hr hk hl hw
set_option maxHeartbeats 4000000 in
set_option maxRecDepth 100000 in
theorem w_M_write_180 (fz : Nat) (x1 : Int32) (x2 : Int32) (x3 : Int32) (h : HH) (ρ : Int32 × HH) (hρ : B_M_write_180 fz x1 x2 x3 h = ρ) (hp : P_M_write_180 fz x1 x2 x3 h) (X : CallFix p m c b_M_write 7 s args TB R_M) (K : KK D cI cZ s) (hr : meth.sig.returnType = (some .int)) (hk : meth.locks = false) {ls : Array Slot} {H : Heap} {locs : List Loc} (hl : Lc ls 7 [some (.ref (ad 27)), some (.int x1), some (.int x2), some (.int x3), none, none, none]) (hw : Hw D cI cZ base ad s shape h H locs) : W p l e (rmD 2 48) s m args below meth c H locs 0 0 (MQ below (Qw D cI cZ base ad (pIH ρ)) args s 0 0 (fun q => base ≤ q)) (F0 m 180 ls []) := by
  unfold B_M_write_180 at hρ
  unfold P_M_write_180 at hp
  refine lv_iconst (v := (1 : Int32)) X.1 X.2.1 d_M_write_180 (by decide) ?_
  refine lv_goto (tgt := 185) X.1 X.2.1 d_M_write_181 (by decide) ?_
  exact w_M_write_185 fz x1 x2 x3 (1 : Int32) h ρ hρ hp X K hr hk hl hw
set_option maxHeartbeats 4000000 in
set_option maxRecDepth 100000 in
theorem w_M_write_152 (fz : Nat) (x1 : Int32) (x2 : Int32) (x3 : Int32) (h : HH) (ρ : Int32 × HH) (hρ : B_M_write_152 fz x1 x2 x3 h = ρ) (hp : P_M_write_152 fz x1 x2 x3 h) (X : CallFix p m c b_M_write 7 s args TB R_M) (K : KK D cI cZ s) (hr : meth.sig.returnType = (some .int)) (hk : meth.locks = false) {ls : Array Slot} {H : Heap} {locs : List Loc} (hl : Lc ls 7 [some (.ref (ad 27)), some (.int x1), some (.int x2), some (.int x3), none, none, none]) (hw : Hw D cI cZ base ad s shape h H locs) : W p l e (rmD 2 48) s m args below meth c H locs 0 0 (MQ below (Qw D cI cZ base ad (pIH ρ)) args s 0 0 (fun q => base ≤ q)) (F0 m 152 ls []) := by
  unfold B_M_write_152 at hρ
  unfold P_M_write_152 at hp
  refine lv_aload_n X.1 X.2.1 d_M_write_152 rfl (hl.at 0 rfl) ?_
  refine r_getr (j := 47) X K hw fg_M_72 rfl rfl d_M_write_153 ?_
  refine lv_iload_n X.1 X.2.1 d_M_write_156 rfl (hl.at 1 rfl) ?_
  refine r_ald X K hw rfl hp.1 d_M_write_157 ?_
  have hp := hp.2
  refine lv_if_eq (tgt := 180) X.1 X.2.1 d_M_write_158 (by decide) (fun g => ?_) (fun g => ?_)
  · rw [if_pos g] at hρ
    have hp := hp.1 g
    exact w_M_write_180 fz x1 x2 x3 h ρ hρ hp X K hr hk hl hw
  · rw [if_neg g] at hρ
    have hp := hp.2 g
    refine lv_aload_n X.1 X.2.1 d_M_write_161 rfl (hl.at 0 rfl) ?_
    refine r_getr (j := 46) X K hw fg_M_69 rfl rfl d_M_write_162 ?_
    refine lv_iload_n X.1 X.2.1 d_M_write_165 rfl (hl.at 1 rfl) ?_
    refine r_aldz X K hw rfl hp.1 d_M_write_166 ?_
    have hp := hp.2
    refine lv_if_ne (tgt := 180) X.1 X.2.1 d_M_write_167 (by decide) (fun g => ?_) (fun g => ?_)
    · rw [if_neg g] at hρ
      have hp := hp.2 g
      exact w_M_write_180 fz x1 x2 x3 h ρ hρ hp X K hr hk hl hw
    · rw [if_pos g] at hρ
      have hp := hp.1 g
      refine lv_aload_n X.1 X.2.1 d_M_write_170 rfl (hl.at 0 rfl) ?_
      refine lv_iload_n X.1 X.2.1 d_M_write_171 rfl (hl.at 1 rfl) ?_
      refine lv_iload_n X.1 X.2.1 d_M_write_172 rfl (hl.at 2 rfl) ?_
      refine lv_iload_n X.1 X.2.1 d_M_write_173 rfl (hl.at 2 rfl) ?_
      refine r_callV (rest := []) X K hw hl.1 mf_M_90 rfl rfl rfl (c_M_pending l D cI cZ base ad fz x1 x2 x2 h hp.1) (by decide) ⟨Nat.le_refl _, Nat.le_refl _⟩ rfl rfl (Nat.le_of_ble_eq_true rfl) d_M_write_174 (fun v h' H locs q hw => ?_)
      obtain ⟨rfl, rfl⟩ := q
      have hp := hp.2
      refine lv_if_le (tgt := 184) X.1 X.2.1 d_M_write_177 (by decide) (fun g => ?_) (fun g => ?_)
      · rw [if_pos g] at hρ
        have hp := hp.1 g
        refine lv_iconst (v := (0 : Int32)) X.1 X.2.1 d_M_write_184 (by decide) ?_
        exact w_M_write_185 fz x1 x2 x3 (0 : Int32) h ρ hρ hp X K hr hk hl hw
      · rw [if_neg g] at hρ
        have hp := hp.2 g
        exact w_M_write_180 fz x1 x2 x3 h ρ hρ hp X K hr hk hl hw
set_option maxHeartbeats 4000000 in
set_option maxRecDepth 100000 in
theorem w_M_write_141 (fz : Nat) (x1 : Int32) (x2 : Int32) (x3 : Int32) (x4 : Int32) (h : HH) (ρ : Int32 × HH) (hρ : B_M_write_141 fz x1 x2 x3 x4 h = ρ) (hp : P_M_write_141 fz x1 x2 x3 x4 h) (X : CallFix p m c b_M_write 7 s args TB R_M) (K : KK D cI cZ s) (hr : meth.sig.returnType = (some .int)) (hk : meth.locks = false) {ls : Array Slot} {H : Heap} {locs : List Loc} (hl : Lc ls 7 [some (.ref (ad 27)), some (.int x1), some (.int x2), some (.int x3), some (.int x4), none, none]) (hw : Hw D cI cZ base ad s shape h H locs) : W p l e (rmD 2 48) s m args below meth c H locs 0 0 (MQ below (Qw D cI cZ base ad (pIH ρ)) args s 0 0 (fun q => base ≤ q)) (F0 m 141 ls []) := by
  unfold B_M_write_141 at hρ
  unfold P_M_write_141 at hp
  refine lv_aload_n X.1 X.2.1 d_M_write_141 rfl (hl.at 0 rfl) ?_
  refine r_getr (j := 37) X K hw fg_M_38 rfl rfl d_M_write_142 ?_
  refine lv_iload X.1 X.2.1 d_M_write_145 (hl.at 4 rfl) ?_
  refine lv_aload_n X.1 X.2.1 d_M_write_147 rfl (hl.at 0 rfl) ?_
  refine r_geti X K hw fg_M_130 rfl rfl d_M_write_148 ?_
  refine r_ast X K hw rfl hp.1 d_M_write_151 (fun H locs hw => ?_)
  have hp := hp.2
  have hl : Lc ls 7 [some (.ref (ad 27)), some (.int x1), some (.int x2), some (.int x3), none, none, none] := hl.mask [true, true, true, true, false, false, false]
  exact w_M_write_152 fz x1 x2 x3 (u2 h 37 (ix x4) (h 27 11)) ρ hρ hp X K hr hk hl hw
set_option maxHeartbeats 4000000 in
set_option maxRecDepth 100000 in
theorem w_M_write_131 (fz : Nat) (x1 : Int32) (x2 : Int32) (x3 : Int32) (x4 : Int32) (h : HH) (ρ : Int32 × HH) (hρ : B_M_write_131 fz x1 x2 x3 x4 h = ρ) (hp : P_M_write_131 fz x1 x2 x3 x4 h) (X : CallFix p m c b_M_write 7 s args TB R_M) (K : KK D cI cZ s) (hr : meth.sig.returnType = (some .int)) (hk : meth.locks = false) {ls : Array Slot} {H : Heap} {locs : List Loc} (hl : Lc ls 7 [some (.ref (ad 27)), some (.int x1), some (.int x2), some (.int x3), some (.int x4), none, none]) (hw : Hw D cI cZ base ad s shape h H locs) : W p l e (rmD 2 48) s m args below meth c H locs 0 0 (MQ below (Qw D cI cZ base ad (pIH ρ)) args s 0 0 (fun q => base ≤ q)) (F0 m 131 ls []) := by
  unfold B_M_write_131 at hρ
  unfold P_M_write_131 at hp
  refine lv_aload_n X.1 X.2.1 d_M_write_131 rfl (hl.at 0 rfl) ?_
  refine lv_dup X.1 X.2.1 d_M_write_132 rfl ?_
  refine r_geti X K hw fg_M_130 rfl rfl d_M_write_133 ?_
  refine lv_iconst (v := (1 : Int32)) X.1 X.2.1 d_M_write_136 (by decide) ?_
  refine lv_iadd X.1 X.2.1 d_M_write_137 ?_
  refine r_put X K hw fp_M_130 rfl rfl rfl rfl d_M_write_138 (fun H locs hw => ?_)
  exact w_M_write_141 fz x1 x2 x3 x4 (u2 h 27 11 ((h 27 11) + (1 : Int32))) ρ hρ hp X K hr hk hl hw
set_option maxHeartbeats 4000000 in
set_option maxRecDepth 100000 in
theorem w_M_write_123 (fz : Nat) (x1 : Int32) (x2 : Int32) (x3 : Int32) (x4 : Int32) (h : HH) (ρ : Int32 × HH) (hρ : B_M_write_123 fz x1 x2 x3 x4 h = ρ) (hp : P_M_write_123 fz x1 x2 x3 x4 h) (X : CallFix p m c b_M_write 7 s args TB R_M) (K : KK D cI cZ s) (hr : meth.sig.returnType = (some .int)) (hk : meth.locks = false) {ls : Array Slot} {H : Heap} {locs : List Loc} (hl : Lc ls 7 [some (.ref (ad 27)), some (.int x1), some (.int x2), some (.int x3), some (.int x4), none, none]) (hw : Hw D cI cZ base ad s shape h H locs) : W p l e (rmD 2 48) s m args below meth c H locs 0 0 (MQ below (Qw D cI cZ base ad (pIH ρ)) args s 0 0 (fun q => base ≤ q)) (F0 m 123 ls []) := by
  unfold B_M_write_123 at hρ
  unfold P_M_write_123 at hp
  refine lv_aload_n X.1 X.2.1 d_M_write_123 rfl (hl.at 0 rfl) ?_
  refine r_getr (j := 36) X K hw fg_M_35 rfl rfl d_M_write_124 ?_
  refine lv_iload X.1 X.2.1 d_M_write_127 (hl.at 4 rfl) ?_
  refine lv_iconst (v := (1 : Int32)) X.1 X.2.1 d_M_write_129 (by decide) ?_
  refine r_astz X K hw rfl hp.1 (by decide) d_M_write_130 (fun H locs hw => ?_)
  have hp := hp.2
  exact w_M_write_131 fz x1 x2 x3 x4 (u2 h 36 (ix x4) (1 : Int32)) ρ hρ hp X K hr hk hl hw
set_option maxHeartbeats 4000000 in
set_option maxRecDepth 100000 in
theorem w_M_write (fz : Nat) (x1 : Int32) (x2 : Int32) (x3 : Int32) (h : HH) (ρ : Int32 × HH) (hρ : B_M_write fz x1 x2 x3 h = ρ) (hp : P_M_write fz x1 x2 x3 h) (X : CallFix p m c b_M_write 7 s args TB R_M) (K : KK D cI cZ s) (hr : meth.sig.returnType = (some .int)) (hk : meth.locks = false) {ls : Array Slot} {H : Heap} {locs : List Loc} (hl : Lc ls 7 [some (.ref (ad 27)), some (.int x1), some (.int x2), some (.int x3), none, none, none]) (hw : Hw D cI cZ base ad s shape h H locs) : W p l e (rmD 2 48) s m args below meth c H locs 0 0 (MQ below (Qw D cI cZ base ad (pIH ρ)) args s 0 0 (fun q => base ≤ q)) (F0 m 0 ls []) := by
  unfold B_M_write at hρ
  unfold P_M_write at hp
  refine lv_iload_n X.1 X.2.1 d_M_write_0 rfl (hl.at 1 rfl) ?_
  refine r_callS (rest := []) X K hw hl.1 mf_M_117 (c_M_isNode l D cI cZ base ad fz x1 h hp.1) (by decide) ⟨Nat.le_refl _, Nat.le_refl _⟩ rfl rfl (Nat.le_of_ble_eq_true rfl) d_M_write_1 (fun v h' H locs q hw => ?_)
  obtain ⟨rfl, rfl⟩ := q
  have hp := hp.2
  refine lv_if_eq (tgt := 14) X.1 X.2.1 d_M_write_4 (by decide) (fun g => ?_) (fun g => ?_)
  · rw [if_pos g] at hρ
    have hp := hp.1 g
    refine lv_iconst (v := (-1 : Int32)) X.1 X.2.1 d_M_write_14 (by decide) ?_
    exact r_iret X hr hk hw ⟨congrArg (fun z => some (Value.int z.1)) hρ, (congrArg Prod.snd hρ).symm⟩ d_M_write_15
  · rw [if_neg g] at hρ
    have hp := hp.2 g
    refine lv_iload_n X.1 X.2.1 d_M_write_7 rfl (hl.at 2 rfl) ?_
    refine r_callS (rest := []) X K hw hl.1 mf_M_120 (c_M_isBlock l D cI cZ base ad fz x2 h hp.1) (by decide) ⟨Nat.le_refl _, Nat.le_refl _⟩ rfl rfl (Nat.le_of_ble_eq_true rfl) d_M_write_8 (fun v h' H locs q hw => ?_)
    obtain ⟨rfl, rfl⟩ := q
    have hp := hp.2
    refine lv_if_ne (tgt := 16) X.1 X.2.1 d_M_write_11 (by decide) (fun g => ?_) (fun g => ?_)
    · rw [if_neg g] at hρ
      have hp := hp.2 g
      refine lv_aload_n X.1 X.2.1 d_M_write_16 rfl (hl.at 0 rfl) ?_
      refine r_getr (j := 42) X K hw fg_M_57 rfl rfl d_M_write_17 ?_
      refine lv_iload_n X.1 X.2.1 d_M_write_20 rfl (hl.at 1 rfl) ?_
      refine r_aldz X K hw rfl hp.1 d_M_write_21 ?_
      have hp := hp.2
      refine lv_if_ne (tgt := 28) X.1 X.2.1 d_M_write_22 (by decide) (fun g => ?_) (fun g => ?_)
      · rw [if_neg g] at hρ
        have hp := hp.2 g
        refine lv_aload_n X.1 X.2.1 d_M_write_28 rfl (hl.at 0 rfl) ?_
        refine r_getr (j := 43) X K hw fg_M_60 rfl rfl d_M_write_29 ?_
        refine lv_iload_n X.1 X.2.1 d_M_write_32 rfl (hl.at 1 rfl) ?_
        refine r_aldz X K hw rfl hp.1 d_M_write_33 ?_
        have hp := hp.2
        refine lv_if_ne (tgt := 40) X.1 X.2.1 d_M_write_34 (by decide) (fun g => ?_) (fun g => ?_)
        · rw [if_neg g] at hρ
          have hp := hp.2 g
          refine lv_aload_n X.1 X.2.1 d_M_write_40 rfl (hl.at 0 rfl) ?_
          refine r_geti X K hw fg_M_87 rfl rfl d_M_write_41 ?_
          refine lv_sipush (v := (300 : Int32)) X.1 X.2.1 d_M_write_44 (by decide) ?_
          refine lv_icmp_eq (tgt := 63) X.1 X.2.1 d_M_write_47 (by decide) (fun g => ?_) (fun g => ?_)
          · rw [if_pos g] at hρ
            have hp := hp.1 g
            refine lv_bipush (v := (-4 : Int32)) X.1 X.2.1 d_M_write_63 (by decide) ?_
            exact r_iret X hr hk hw ⟨congrArg (fun z => some (Value.int z.1)) hρ, (congrArg Prod.snd hρ).symm⟩ d_M_write_65
          · rw [if_neg g] at hρ
            have hp := hp.2 g
            refine lv_aload_n X.1 X.2.1 d_M_write_50 rfl (hl.at 0 rfl) ?_
            refine lv_iload_n X.1 X.2.1 d_M_write_51 rfl (hl.at 1 rfl) ?_
            refine lv_iconst (v := (0 : Int32)) X.1 X.2.1 d_M_write_52 (by decide) ?_
            refine lv_bipush (v := (31 : Int32)) X.1 X.2.1 d_M_write_53 (by decide) ?_
            refine r_callV (rest := []) X K hw hl.1 mf_M_90 rfl rfl rfl (c_M_pending l D cI cZ base ad fz x1 (0 : Int32) (31 : Int32) h hp.1) (by decide) ⟨Nat.le_refl _, Nat.le_refl _⟩ rfl rfl (Nat.le_of_ble_eq_true rfl) d_M_write_55 (fun v h' H locs q hw => ?_)
            obtain ⟨rfl, rfl⟩ := q
            have hp := hp.2
            refine lv_bipush (v := (8 : Int32)) X.1 X.2.1 d_M_write_58 (by decide) ?_
            refine lv_icmp_lt (tgt := 66) X.1 X.2.1 d_M_write_60 (by decide) (fun g => ?_) (fun g => ?_)
            · rw [if_pos g] at hρ
              have hp := hp.1 g
              refine lv_bipush (v := (8 : Int32)) X.1 X.2.1 d_M_write_66 (by decide) ?_
              refine lv_iload_n X.1 X.2.1 d_M_write_68 rfl (hl.at 1 rfl) ?_
              refine lv_imul X.1 X.2.1 d_M_write_69 ?_
              refine lv_iload_n X.1 X.2.1 d_M_write_70 rfl (hl.at 2 rfl) ?_
              refine lv_iconst (v := (4 : Int32)) X.1 X.2.1 d_M_write_71 (by decide) ?_
              refine lv_idiv X.1 X.2.1 d_M_write_72 (by decide) ?_
              refine lv_iadd X.1 X.2.1 d_M_write_73 ?_
              refine r_istore X hl d_M_write_74 (by decide) (fun ls hl => ?_)
              have hl : Lc ls 7 [some (.ref (ad 27)), some (.int x1), some (.int x2), some (.int x3), some (.int (((8 : Int32) * x1) + (x2 / (4 : Int32)))), none, none] := hl
              refine lv_aload_n X.1 X.2.1 d_M_write_76 rfl (hl.at 0 rfl) ?_
              refine r_getr (j := 36) X K hw fg_M_35 rfl rfl d_M_write_77 ?_
              refine lv_iload X.1 X.2.1 d_M_write_80 (hl.at 4 rfl) ?_
              refine r_aldz X K hw rfl hp.1 d_M_write_82 ?_
              have hp := hp.2
              refine lv_if_ne (tgt := 123) X.1 X.2.1 d_M_write_83 (by decide) (fun g => ?_) (fun g => ?_)
              · rw [if_neg g] at hρ
                have hp := hp.2 g
                exact w_M_write_123 fz x1 x2 x3 (((8 : Int32) * x1) + (x2 / (4 : Int32))) h ρ hρ hp X K hr hk hl hw
              · rw [if_pos g] at hρ
                have hp := hp.1 g
                refine lv_aload_n X.1 X.2.1 d_M_write_86 rfl (hl.at 0 rfl) ?_
                refine lv_iload_n X.1 X.2.1 d_M_write_87 rfl (hl.at 1 rfl) ?_
                refine r_callV (rest := []) X K hw hl.1 mf_M_123 rfl rfl rfl (c_M_inLog l D cI cZ base ad fz x1 h hp.1) (by decide) ⟨Nat.le_refl _, Nat.le_refl _⟩ rfl rfl (Nat.le_of_ble_eq_true rfl) d_M_write_88 (fun v h' H locs q hw => ?_)
                obtain ⟨rfl, rfl⟩ := q
                have hp := hp.2
                refine lv_iconst (v := (3 : Int32)) X.1 X.2.1 d_M_write_91 (by decide) ?_
                refine lv_icmp_ne (tgt := 123) X.1 X.2.1 d_M_write_92 (by decide) (fun g => ?_) (fun g => ?_)
                · rw [if_neg g] at hρ
                  have hp := hp.2 g
                  exact w_M_write_123 fz x1 x2 x3 (((8 : Int32) * x1) + (x2 / (4 : Int32))) h ρ hρ hp X K hr hk hl hw
                · rw [if_pos g] at hρ
                  have hp := hp.1 g
                  refine lv_aload_n X.1 X.2.1 d_M_write_95 rfl (hl.at 0 rfl) ?_
                  refine lv_iload_n X.1 X.2.1 d_M_write_96 rfl (hl.at 1 rfl) ?_
                  refine r_callV (rest := []) X K hw hl.1 mf_M_127 rfl rfl rfl (c_M_idle l D cI cZ base ad fz x1 h hp.1) (by decide) ⟨Nat.le_refl _, Nat.le_refl _⟩ rfl rfl (Nat.le_of_ble_eq_true rfl) d_M_write_97 (fun v h' H locs q hw => ?_)
                  obtain ⟨rfl, rfl⟩ := q
                  have hp := hp.2
                  refine r_istore X hl d_M_write_100 (by decide) (fun ls hl => ?_)
                  have hl : Lc ls 7 [some (.ref (ad 27)), some (.int x1), some (.int x2), some (.int x3), some (.int (((8 : Int32) * x1) + (x2 / (4 : Int32)))), some (.int (B_M_idle fz x1 h)), none] := hl
                  refine lv_iload X.1 X.2.1 d_M_write_102 (hl.at 5 rfl) ?_
                  refine lv_if_ge (tgt := 110) X.1 X.2.1 d_M_write_104 (by decide) (fun g => ?_) (fun g => ?_)
                  · rw [if_pos g] at hρ
                    have hp := hp.1 g
                    refine lv_aload_n X.1 X.2.1 d_M_write_110 rfl (hl.at 0 rfl) ?_
                    refine r_getr (j := 36) X K hw fg_M_35 rfl rfl d_M_write_111 ?_
                    refine lv_bipush (v := (8 : Int32)) X.1 X.2.1 d_M_write_114 (by decide) ?_
                    refine lv_iload_n X.1 X.2.1 d_M_write_116 rfl (hl.at 1 rfl) ?_
                    refine lv_imul X.1 X.2.1 d_M_write_117 ?_
                    refine lv_iload X.1 X.2.1 d_M_write_118 (hl.at 5 rfl) ?_
                    refine lv_iadd X.1 X.2.1 d_M_write_120 ?_
                    refine lv_iconst (v := (0 : Int32)) X.1 X.2.1 d_M_write_121 (by decide) ?_
                    refine r_astz X K hw rfl hp.1 (by decide) d_M_write_122 (fun H locs hw => ?_)
                    have hp := hp.2
                    have hl : Lc ls 7 [some (.ref (ad 27)), some (.int x1), some (.int x2), some (.int x3), some (.int (((8 : Int32) * x1) + (x2 / (4 : Int32)))), none, none] := hl.mask [true, true, true, true, true, false, false]
                    exact w_M_write_123 fz x1 x2 x3 (((8 : Int32) * x1) + (x2 / (4 : Int32))) (u2 h 36 (ix (((8 : Int32) * x1) + (B_M_idle fz x1 h))) (0 : Int32)) ρ hρ hp X K hr hk hl hw
                  · rw [if_neg g] at hρ
                    have hp := hp.2 g
                    refine lv_bipush (v := (-5 : Int32)) X.1 X.2.1 d_M_write_107 (by decide) ?_
                    exact r_iret X hr hk hw ⟨congrArg (fun z => some (Value.int z.1)) hρ, (congrArg Prod.snd hρ).symm⟩ d_M_write_109
            · rw [if_neg g] at hρ
              have hp := hp.2 g
              refine lv_bipush (v := (-4 : Int32)) X.1 X.2.1 d_M_write_63 (by decide) ?_
              exact r_iret X hr hk hw ⟨congrArg (fun z => some (Value.int z.1)) hρ, (congrArg Prod.snd hρ).symm⟩ d_M_write_65
        · rw [if_pos g] at hρ
          have hp := hp.1 g
          refine lv_bipush (v := (-3 : Int32)) X.1 X.2.1 d_M_write_37 (by decide) ?_
          exact r_iret X hr hk hw ⟨congrArg (fun z => some (Value.int z.1)) hρ, (congrArg Prod.snd hρ).symm⟩ d_M_write_39
      · rw [if_pos g] at hρ
        have hp := hp.1 g
        refine lv_bipush (v := (-2 : Int32)) X.1 X.2.1 d_M_write_25 (by decide) ?_
        exact r_iret X hr hk hw ⟨congrArg (fun z => some (Value.int z.1)) hρ, (congrArg Prod.snd hρ).symm⟩ d_M_write_27
    · rw [if_pos g] at hρ
      have hp := hp.1 g
      refine lv_iconst (v := (-1 : Int32)) X.1 X.2.1 d_M_write_14 (by decide) ?_
      exact r_iret X hr hk hw ⟨congrArg (fun z => some (Value.int z.1)) hρ, (congrArg Prod.snd hρ).symm⟩ d_M_write_15
set_option maxRecDepth 100000 in
theorem c_M_write (l : Launch) (D : va_G) (cI cZ : ClassId) (base : Nat) (ad : Nat → Nat) (fz : Nat) (x1 : Int32) (x2 : Int32) (x3 : Int32) (h : HH) (hp : P_M_write fz x1 x2 x3 h) : Ct l D cI cZ base ad y_M_write b_M_write 7 (some .int) 2 48 [.ref (ad 27), .int x1, .int x2, .int x3] h (pIH (B_M_write fz x1 x2 x3 h)) := by
  refine Ct.of (by decide) (Nat.le_of_ble_eq_true rfl) (cat_ok rfl) ?_
  intro p e s m args below meth c ls X K hr hk hl hw
  exact w_M_write fz x1 x2 x3 h _ rfl hp X K hr hk hl hw
set_option maxHeartbeats 4000000 in
set_option maxRecDepth 100000 in
theorem w_M_barrier (fz : Nat) (x1 : Int32) (h : HH) (ρ : Int32 × HH) (hρ : B_M_barrier fz x1 h = ρ) (hp : P_M_barrier fz x1 h) (X : CallFix p m c b_M_barrier 2 s args TB R_M) (K : KK D cI cZ s) (hr : meth.sig.returnType = (some .boolean)) (hk : meth.locks = false) {ls : Array Slot} {H : Heap} {locs : List Loc} (hl : Lc ls 2 [some (.ref (ad 27)), some (.int x1)]) (hw : Hw D cI cZ base ad s shape h H locs) : W p l e (rmD 1 20) s m args below meth c H locs 0 0 (MQ below (Qw D cI cZ base ad (pIH ρ)) args s 0 0 (fun q => base ≤ q)) (F0 m 0 ls []) := by
  unfold B_M_barrier at hρ
  unfold P_M_barrier at hp
  refine lv_iload_n X.1 X.2.1 d_M_barrier_0 rfl (hl.at 1 rfl) ?_
  refine r_callS (rest := []) X K hw hl.1 mf_M_117 (c_M_isNode l D cI cZ base ad fz x1 h hp.1) (by decide) ⟨Nat.le_refl _, Nat.le_refl _⟩ rfl rfl (Nat.le_of_ble_eq_true rfl) d_M_barrier_1 (fun v h' H locs q hw => ?_)
  obtain ⟨rfl, rfl⟩ := q
  have hp := hp.2
  refine lv_if_eq (tgt := 25) X.1 X.2.1 d_M_barrier_4 (by decide) (fun g => ?_) (fun g => ?_)
  · rw [if_pos g] at hρ
    have hp := hp.1 g
    refine lv_iconst (v := (0 : Int32)) X.1 X.2.1 d_M_barrier_25 (by decide) ?_
    exact r_zret X hr hk hw (by decide) ⟨congrArg (fun z => some (Value.int z.1)) hρ, (congrArg Prod.snd hρ).symm⟩ d_M_barrier_26
  · rw [if_neg g] at hρ
    have hp := hp.2 g
    refine lv_aload_n X.1 X.2.1 d_M_barrier_7 rfl (hl.at 0 rfl) ?_
    refine r_getr (j := 42) X K hw fg_M_57 rfl rfl d_M_barrier_8 ?_
    refine lv_iload_n X.1 X.2.1 d_M_barrier_11 rfl (hl.at 1 rfl) ?_
    refine r_aldz X K hw rfl hp.1 d_M_barrier_12 ?_
    have hp := hp.2
    refine lv_if_eq (tgt := 25) X.1 X.2.1 d_M_barrier_13 (by decide) (fun g => ?_) (fun g => ?_)
    · rw [if_pos g] at hρ
      have hp := hp.1 g
      refine lv_iconst (v := (0 : Int32)) X.1 X.2.1 d_M_barrier_25 (by decide) ?_
      exact r_zret X hr hk hw (by decide) ⟨congrArg (fun z => some (Value.int z.1)) hρ, (congrArg Prod.snd hρ).symm⟩ d_M_barrier_26
    · rw [if_neg g] at hρ
      have hp := hp.2 g
      refine lv_aload_n X.1 X.2.1 d_M_barrier_16 rfl (hl.at 0 rfl) ?_
      refine r_getr (j := 43) X K hw fg_M_60 rfl rfl d_M_barrier_17 ?_
      refine lv_iload_n X.1 X.2.1 d_M_barrier_20 rfl (hl.at 1 rfl) ?_
      refine r_aldz X K hw rfl hp.1 d_M_barrier_21 ?_
      have hp := hp.2
      refine lv_if_ne (tgt := 27) X.1 X.2.1 d_M_barrier_22 (by decide) (fun g => ?_) (fun g => ?_)
      · rw [if_neg g] at hρ
        have hp := hp.2 g
        refine lv_aload_n X.1 X.2.1 d_M_barrier_27 rfl (hl.at 0 rfl) ?_
        refine r_getr (j := 46) X K hw fg_M_69 rfl rfl d_M_barrier_28 ?_
        refine lv_iload_n X.1 X.2.1 d_M_barrier_31 rfl (hl.at 1 rfl) ?_
        refine lv_iconst (v := (1 : Int32)) X.1 X.2.1 d_M_barrier_32 (by decide) ?_
        refine r_astz X K hw rfl hp.1 (by decide) d_M_barrier_33 (fun H locs hw => ?_)
        have hp := hp.2
        refine lv_iconst (v := (1 : Int32)) X.1 X.2.1 d_M_barrier_34 (by decide) ?_
        exact r_zret X hr hk hw (by decide) ⟨congrArg (fun z => some (Value.int z.1)) hρ, (congrArg Prod.snd hρ).symm⟩ d_M_barrier_35
      · rw [if_pos g] at hρ
        have hp := hp.1 g
        refine lv_iconst (v := (0 : Int32)) X.1 X.2.1 d_M_barrier_25 (by decide) ?_
        exact r_zret X hr hk hw (by decide) ⟨congrArg (fun z => some (Value.int z.1)) hρ, (congrArg Prod.snd hρ).symm⟩ d_M_barrier_26
set_option maxRecDepth 100000 in
theorem c_M_barrier (l : Launch) (D : va_G) (cI cZ : ClassId) (base : Nat) (ad : Nat → Nat) (fz : Nat) (x1 : Int32) (h : HH) (hp : P_M_barrier fz x1 h) : Ct l D cI cZ base ad y_M_barrier b_M_barrier 2 (some .boolean) 1 20 [.ref (ad 27), .int x1] h (pIH (B_M_barrier fz x1 h)) := by
  refine Ct.of (by decide) (Nat.le_of_ble_eq_true rfl) (cat_ok rfl) ?_
  intro p e s m args below meth c ls X K hr hk hl hw
  exact w_M_barrier fz x1 h _ rfl hp X K hr hk hl hw
set_option maxHeartbeats 4000000 in
set_option maxRecDepth 100000 in
theorem w_M_arrive_139 (X : CallFix p m c b_M_arrive 6 s args TB R_M) (K : KK D cI cZ s) (hr : meth.sig.returnType = none) (hk : meth.locks = false) (fz : Nat) : ∀ (fu : Nat) (x1 : Int32) (x3 : Int32) (x5 : Int32) (h : HH) (ρ : HH) (_ : B_M_arrive_139 fz fu x1 x3 x5 h = ρ) (_ : P_M_arrive_139 fz fu x1 x3 x5 h) {ls : Array Slot} {H : Heap} {locs : List Loc} (_ : Lc ls 6 [some (.ref (ad 27)), some (.int x1), none, some (.int x3), none, some (.int x5)]) (_ : Hw D cI cZ base ad s shape h H locs), W p l e (rmD 2 46) s m args below meth c H locs 0 0 (MQ below (Qw D cI cZ base ad (pH ρ)) args s 0 0 (fun q => base ≤ q)) (F0 m 139 ls []) := by
  intro fu
  induction fu with
  | zero =>
    intro x1 x3 x5 h ρ hρ hp ls H locs hl hw
    exact hp.elim
  | succ fu ih =>
    intro x1 x3 x5 h ρ hρ hp ls H locs hl hw
    rw [B_M_arrive_139] at hρ
    rw [P_M_arrive_139] at hp
    refine lv_iload X.1 X.2.1 d_M_arrive_139 (hl.at 5 rfl) ?_
    refine lv_bipush (v := (32 : Int32)) X.1 X.2.1 d_M_arrive_141 (by decide) ?_
    refine lv_icmp_ge (tgt := 165) X.1 X.2.1 d_M_arrive_143 (by decide) (fun g => ?_) (fun g => ?_)
    · rw [if_pos g] at hρ
      have hp := hp.1 g
      refine lv_aload_n X.1 X.2.1 d_M_arrive_165 rfl (hl.at 0 rfl) ?_
      refine r_getr (j := 38) X K hw fg_M_41 rfl rfl d_M_arrive_166 ?_
      refine lv_iload_n X.1 X.2.1 d_M_arrive_169 rfl (hl.at 1 rfl) ?_
      refine lv_iload_n X.1 X.2.1 d_M_arrive_170 rfl (hl.at 3 rfl) ?_
      refine r_ast X K hw rfl hp.1 d_M_arrive_171 (fun H locs hw => ?_)
      have hp := hp.2
      refine lv_aload_n X.1 X.2.1 d_M_arrive_172 rfl (hl.at 0 rfl) ?_
      refine r_getr (j := 39) X K hw fg_M_44 rfl rfl d_M_arrive_173 ?_
      refine lv_iload_n X.1 X.2.1 d_M_arrive_176 rfl (hl.at 1 rfl) ?_
      refine lv_iconst (v := (0 : Int32)) X.1 X.2.1 d_M_arrive_177 (by decide) ?_
      refine r_ast X K hw rfl hp.1 d_M_arrive_178 (fun H locs hw => ?_)
      have hp := hp.2
      exact r_vret X hr hk hw ⟨rfl, hρ.symm⟩ d_M_arrive_179
    · rw [if_neg g] at hρ
      have hp := hp.2 g
      refine lv_aload_n X.1 X.2.1 d_M_arrive_146 rfl (hl.at 0 rfl) ?_
      refine r_getr (j := 35) X K hw fg_M_32 rfl rfl d_M_arrive_147 ?_
      refine lv_bipush (v := (32 : Int32)) X.1 X.2.1 d_M_arrive_150 (by decide) ?_
      refine lv_iload_n X.1 X.2.1 d_M_arrive_152 rfl (hl.at 1 rfl) ?_
      refine lv_imul X.1 X.2.1 d_M_arrive_153 ?_
      refine lv_iload X.1 X.2.1 d_M_arrive_154 (hl.at 5 rfl) ?_
      refine lv_iadd X.1 X.2.1 d_M_arrive_156 ?_
      refine lv_iconst (v := (0 : Int32)) X.1 X.2.1 d_M_arrive_157 (by decide) ?_
      refine r_astz X K hw rfl hp.1 (by decide) d_M_arrive_158 (fun H locs hw => ?_)
      have hp := hp.2
      refine lv_iincL X.1 X.2.1 hl (v := (x5 + 1)) d_M_arrive_159 rfl (congrArg (fun z => x5 + z) (by decide)) (by decide) (fun ls hl => ?_)
      have hl : Lc ls 6 [some (.ref (ad 27)), some (.int x1), none, some (.int x3), none, some (.int (x5 + 1))] := hl
      refine lv_goto (tgt := 139) X.1 X.2.1 d_M_arrive_162 (by decide) ?_
      exact ih x1 x3 (x5 + 1) (u2 h 35 (ix (((32 : Int32) * x1) + x5)) (0 : Int32)) ρ hρ hp hl hw
set_option maxHeartbeats 4000000 in
set_option maxRecDepth 100000 in
theorem w_M_arrive_107 (fz : Nat) (x1 : Int32) (h : HH) (ρ : HH) (hρ : B_M_arrive_107 fz x1 h = ρ) (hp : P_M_arrive_107 fz x1 h) (X : CallFix p m c b_M_arrive 6 s args TB R_M) (K : KK D cI cZ s) (hr : meth.sig.returnType = none) (hk : meth.locks = false) {ls : Array Slot} {H : Heap} {locs : List Loc} (hl : Lc ls 6 [some (.ref (ad 27)), some (.int x1), none, none, none, none]) (hw : Hw D cI cZ base ad s shape h H locs) : W p l e (rmD 2 46) s m args below meth c H locs 0 0 (MQ below (Qw D cI cZ base ad (pH ρ)) args s 0 0 (fun q => base ≤ q)) (F0 m 107 ls []) := by
  unfold B_M_arrive_107 at hρ
  unfold P_M_arrive_107 at hp
  refine lv_aload_n X.1 X.2.1 d_M_arrive_107 rfl (hl.at 0 rfl) ?_
  refine lv_iload_n X.1 X.2.1 d_M_arrive_108 rfl (hl.at 1 rfl) ?_
  refine r_callV (rest := []) X K hw hl.1 mf_M_136 rfl rfl rfl (c_M_endIfEmpty l D cI cZ base ad fz x1 h hp.1) (by decide) ⟨Nat.le_refl _, Nat.le_refl _⟩ rfl rfl (Nat.le_of_ble_eq_true rfl) d_M_arrive_109 (fun v h' H locs q hw => ?_)
  obtain ⟨rfl, rfl⟩ := q
  have hp := hp.2
  refine lv_goto (tgt := 179) X.1 X.2.1 d_M_arrive_112 (by decide) ?_
  exact r_vret X hr hk hw ⟨rfl, hρ.symm⟩ d_M_arrive_179
set_option maxHeartbeats 4000000 in
set_option maxRecDepth 100000 in
theorem w_M_arrive_79 (fz : Nat) (x1 : Int32) (x3 : Int32) (h : HH) (ρ : HH) (hρ : B_M_arrive_79 fz x1 x3 h = ρ) (hp : P_M_arrive_79 fz x1 x3 h) (X : CallFix p m c b_M_arrive 6 s args TB R_M) (K : KK D cI cZ s) (hr : meth.sig.returnType = none) (hk : meth.locks = false) {ls : Array Slot} {H : Heap} {locs : List Loc} (hl : Lc ls 6 [some (.ref (ad 27)), some (.int x1), none, some (.int x3), none, none]) (hw : Hw D cI cZ base ad s shape h H locs) : W p l e (rmD 2 46) s m args below meth c H locs 0 0 (MQ below (Qw D cI cZ base ad (pH ρ)) args s 0 0 (fun q => base ≤ q)) (F0 m 79 ls []) := by
  unfold B_M_arrive_79 at hρ
  unfold P_M_arrive_79 at hp
  refine lv_aload_n X.1 X.2.1 d_M_arrive_79 rfl (hl.at 0 rfl) ?_
  refine lv_iload_n X.1 X.2.1 d_M_arrive_80 rfl (hl.at 1 rfl) ?_
  refine lv_iconst (v := (4 : Int32)) X.1 X.2.1 d_M_arrive_81 (by decide) ?_
  refine lv_iload_n X.1 X.2.1 d_M_arrive_82 rfl (hl.at 3 rfl) ?_
  refine lv_iconst (v := (0 : Int32)) X.1 X.2.1 d_M_arrive_83 (by decide) ?_
  refine r_callV (rest := []) X K hw hl.1 mf_M_105 rfl rfl rfl (c_M_send l D cI cZ base ad fz x1 (4 : Int32) x3 (0 : Int32) h hp.1) (by decide) ⟨Nat.le_refl _, Nat.le_refl _⟩ rfl rfl (Nat.le_of_ble_eq_true rfl) d_M_arrive_84 (fun v h' H locs q hw => ?_)
  obtain ⟨rfl, rfl⟩ := q
  have hp := hp.2
  refine lv_goto (tgt := 179) X.1 X.2.1 d_M_arrive_87 (by decide) ?_
  exact r_vret X hr hk hw ⟨rfl, hρ.symm⟩ d_M_arrive_179
set_option maxHeartbeats 4000000 in
set_option maxRecDepth 100000 in
theorem w_M_arrive_53 (fz : Nat) (x1 : Int32) (h : HH) (ρ : HH) (hρ : B_M_arrive_53 fz x1 h = ρ) (hp : P_M_arrive_53 fz x1 h) (X : CallFix p m c b_M_arrive 6 s args TB R_M) (K : KK D cI cZ s) (hr : meth.sig.returnType = none) (hk : meth.locks = false) {ls : Array Slot} {H : Heap} {locs : List Loc} (hl : Lc ls 6 [some (.ref (ad 27)), some (.int x1), none, none, none, none]) (hw : Hw D cI cZ base ad s shape h H locs) : W p l e (rmD 2 46) s m args below meth c H locs 0 0 (MQ below (Qw D cI cZ base ad (pH ρ)) args s 0 0 (fun q => base ≤ q)) (F0 m 53 ls []) := by
  unfold B_M_arrive_53 at hρ
  unfold P_M_arrive_53 at hp
  refine lv_aload_n X.1 X.2.1 d_M_arrive_53 rfl (hl.at 0 rfl) ?_
  refine lv_iload_n X.1 X.2.1 d_M_arrive_54 rfl (hl.at 1 rfl) ?_
  refine r_callV (rest := []) X K hw hl.1 mf_M_136 rfl rfl rfl (c_M_endIfEmpty l D cI cZ base ad fz x1 h hp.1) (by decide) ⟨Nat.le_refl _, Nat.le_refl _⟩ rfl rfl (Nat.le_of_ble_eq_true rfl) d_M_arrive_55 (fun v h' H locs q hw => ?_)
  obtain ⟨rfl, rfl⟩ := q
  have hp := hp.2
  refine lv_goto (tgt := 179) X.1 X.2.1 d_M_arrive_58 (by decide) ?_
  exact r_vret X hr hk hw ⟨rfl, hρ.symm⟩ d_M_arrive_179
set_option maxHeartbeats 4000000 in
set_option maxRecDepth 100000 in
theorem w_M_arrive_27 (fz : Nat) (x1 : Int32) (x3 : Int32) (h : HH) (ρ : HH) (hρ : B_M_arrive_27 fz x1 x3 h = ρ) (hp : P_M_arrive_27 fz x1 x3 h) (X : CallFix p m c b_M_arrive 6 s args TB R_M) (K : KK D cI cZ s) (hr : meth.sig.returnType = none) (hk : meth.locks = false) {ls : Array Slot} {H : Heap} {locs : List Loc} (hl : Lc ls 6 [some (.ref (ad 27)), some (.int x1), none, some (.int x3), none, none]) (hw : Hw D cI cZ base ad s shape h H locs) : W p l e (rmD 2 46) s m args below meth c H locs 0 0 (MQ below (Qw D cI cZ base ad (pH ρ)) args s 0 0 (fun q => base ≤ q)) (F0 m 27 ls []) := by
  unfold B_M_arrive_27 at hρ
  unfold P_M_arrive_27 at hp
  refine lv_aload_n X.1 X.2.1 d_M_arrive_27 rfl (hl.at 0 rfl) ?_
  refine r_getr (j := 44) X K hw fg_M_63 rfl rfl d_M_arrive_28 ?_
  refine lv_iload_n X.1 X.2.1 d_M_arrive_31 rfl (hl.at 1 rfl) ?_
  refine r_aldz X K hw rfl hp.1 d_M_arrive_32 ?_
  have hp := hp.2
  refine lv_if_eq (tgt := 179) X.1 X.2.1 d_M_arrive_33 (by decide) (fun g => ?_) (fun g => ?_)
  · rw [if_pos g] at hρ
    have hp := hp.1 g
    exact r_vret X hr hk hw ⟨rfl, hρ.symm⟩ d_M_arrive_179
  · rw [if_neg g] at hρ
    have hp := hp.2 g
    refine lv_aload_n X.1 X.2.1 d_M_arrive_36 rfl (hl.at 0 rfl) ?_
    refine r_getr (j := 35) X K hw fg_M_32 rfl rfl d_M_arrive_37 ?_
    refine lv_bipush (v := (32 : Int32)) X.1 X.2.1 d_M_arrive_40 (by decide) ?_
    refine lv_iload_n X.1 X.2.1 d_M_arrive_42 rfl (hl.at 1 rfl) ?_
    refine lv_imul X.1 X.2.1 d_M_arrive_43 ?_
    refine lv_aload_n X.1 X.2.1 d_M_arrive_44 rfl (hl.at 0 rfl) ?_
    refine r_getr (j := 29) X K hw fg_M_13 rfl rfl d_M_arrive_45 ?_
    refine lv_iload_n X.1 X.2.1 d_M_arrive_48 rfl (hl.at 3 rfl) ?_
    refine r_ald X K hw rfl hp.1 d_M_arrive_49 ?_
    have hp := hp.2
    refine lv_iadd X.1 X.2.1 d_M_arrive_50 ?_
    refine lv_iconst (v := (0 : Int32)) X.1 X.2.1 d_M_arrive_51 (by decide) ?_
    refine r_astz X K hw rfl hp.1 (by decide) d_M_arrive_52 (fun H locs hw => ?_)
    have hp := hp.2
    have hl : Lc ls 6 [some (.ref (ad 27)), some (.int x1), none, none, none, none] := hl.mask [true, true, false, false, false, false]
    exact w_M_arrive_53 fz x1 (u2 h 35 (ix (((32 : Int32) * x1) + (h 29 (ix x3)))) (0 : Int32)) ρ hρ hp X K hr hk hl hw
set_option maxHeartbeats 4000000 in
set_option maxRecDepth 100000 in
theorem w_M_arrive (fz : Nat) (x1 : Int32) (x2 : Int32) (x3 : Int32) (x4 : Int32) (h : HH) (ρ : HH) (hρ : B_M_arrive fz x1 x2 x3 x4 h = ρ) (hp : P_M_arrive fz x1 x2 x3 x4 h) (X : CallFix p m c b_M_arrive 6 s args TB R_M) (K : KK D cI cZ s) (hr : meth.sig.returnType = none) (hk : meth.locks = false) {ls : Array Slot} {H : Heap} {locs : List Loc} (hl : Lc ls 6 [some (.ref (ad 27)), some (.int x1), some (.int x2), some (.int x3), some (.int x4), none]) (hw : Hw D cI cZ base ad s shape h H locs) : W p l e (rmD 2 46) s m args below meth c H locs 0 0 (MQ below (Qw D cI cZ base ad (pH ρ)) args s 0 0 (fun q => base ≤ q)) (F0 m 0 ls []) := by
  unfold B_M_arrive at hρ
  unfold P_M_arrive at hp
  refine lv_iload_n X.1 X.2.1 d_M_arrive_0 rfl (hl.at 2 rfl) ?_
  refine lv_iconst (v := (1 : Int32)) X.1 X.2.1 d_M_arrive_1 (by decide) ?_
  refine lv_icmp_ne (tgt := 15) X.1 X.2.1 d_M_arrive_2 (by decide) (fun g => ?_) (fun g => ?_)
  · rw [if_neg g] at hρ
    have hp := hp.2 g
    refine lv_iload_n X.1 X.2.1 d_M_arrive_15 rfl (hl.at 2 rfl) ?_
    refine lv_iconst (v := (2 : Int32)) X.1 X.2.1 d_M_arrive_16 (by decide) ?_
    refine lv_icmp_ne (tgt := 61) X.1 X.2.1 d_M_arrive_17 (by decide) (fun g => ?_) (fun g => ?_)
    · rw [if_neg g] at hρ
      have hp := hp.2 g
      refine lv_iload_n X.1 X.2.1 d_M_arrive_61 rfl (hl.at 2 rfl) ?_
      refine lv_iconst (v := (3 : Int32)) X.1 X.2.1 d_M_arrive_62 (by decide) ?_
      refine lv_icmp_ne (tgt := 90) X.1 X.2.1 d_M_arrive_63 (by decide) (fun g => ?_) (fun g => ?_)
      · rw [if_neg g] at hρ
        have hp := hp.2 g
        refine lv_iload_n X.1 X.2.1 d_M_arrive_90 rfl (hl.at 2 rfl) ?_
        refine lv_iconst (v := (4 : Int32)) X.1 X.2.1 d_M_arrive_91 (by decide) ?_
        refine lv_icmp_ne (tgt := 115) X.1 X.2.1 d_M_arrive_92 (by decide) (fun g => ?_) (fun g => ?_)
        · rw [if_neg g] at hρ
          have hp := hp.2 g
          refine lv_aload_n X.1 X.2.1 d_M_arrive_115 rfl (hl.at 0 rfl) ?_
          refine r_getr (j := 45) X K hw fg_M_66 rfl rfl d_M_arrive_116 ?_
          refine lv_iload_n X.1 X.2.1 d_M_arrive_119 rfl (hl.at 1 rfl) ?_
          refine lv_iconst (v := (0 : Int32)) X.1 X.2.1 d_M_arrive_120 (by decide) ?_
          refine r_astz X K hw rfl hp.1 (by decide) d_M_arrive_121 (fun H locs hw => ?_)
          have hp := hp.2
          refine lv_aload_n X.1 X.2.1 d_M_arrive_122 rfl (hl.at 0 rfl) ?_
          refine r_getr (j := 40) X K hw fg_M_51 rfl rfl d_M_arrive_123 ?_
          refine lv_iload_n X.1 X.2.1 d_M_arrive_126 rfl (hl.at 1 rfl) ?_
          refine lv_iconst (v := (0 : Int32)) X.1 X.2.1 d_M_arrive_127 (by decide) ?_
          refine r_astz X K hw rfl hp.1 (by decide) d_M_arrive_128 (fun H locs hw => ?_)
          have hp := hp.2
          refine lv_aload_n X.1 X.2.1 d_M_arrive_129 rfl (hl.at 0 rfl) ?_
          refine r_getr (j := 41) X K hw fg_M_54 rfl rfl d_M_arrive_130 ?_
          refine lv_iload_n X.1 X.2.1 d_M_arrive_133 rfl (hl.at 1 rfl) ?_
          refine lv_iconst (v := (0 : Int32)) X.1 X.2.1 d_M_arrive_134 (by decide) ?_
          refine r_astz X K hw rfl hp.1 (by decide) d_M_arrive_135 (fun H locs hw => ?_)
          have hp := hp.2
          refine lv_iconst (v := (0 : Int32)) X.1 X.2.1 d_M_arrive_136 (by decide) ?_
          refine r_istore X hl d_M_arrive_137 (by decide) (fun ls hl => ?_)
          have hl : Lc ls 6 [some (.ref (ad 27)), some (.int x1), some (.int x2), some (.int x3), some (.int x4), some (.int (0 : Int32))] := hl
          have hl : Lc ls 6 [some (.ref (ad 27)), some (.int x1), none, some (.int x3), none, some (.int (0 : Int32))] := hl.mask [true, true, false, true, false, true]
          exact w_M_arrive_139 X K hr hk fz fz x1 x3 (0 : Int32) (u2 (u2 (u2 h 45 (ix x1) (0 : Int32)) 40 (ix x1) (0 : Int32)) 41 (ix x1) (0 : Int32)) ρ hρ hp hl hw
        · rw [if_pos g] at hρ
          have hp := hp.1 g
          refine lv_aload_n X.1 X.2.1 d_M_arrive_95 rfl (hl.at 0 rfl) ?_
          refine r_getr (j := 35) X K hw fg_M_32 rfl rfl d_M_arrive_96 ?_
          refine lv_bipush (v := (32 : Int32)) X.1 X.2.1 d_M_arrive_99 (by decide) ?_
          refine lv_iload_n X.1 X.2.1 d_M_arrive_101 rfl (hl.at 1 rfl) ?_
          refine lv_imul X.1 X.2.1 d_M_arrive_102 ?_
          refine lv_iload_n X.1 X.2.1 d_M_arrive_103 rfl (hl.at 3 rfl) ?_
          refine lv_iadd X.1 X.2.1 d_M_arrive_104 ?_
          refine lv_iconst (v := (0 : Int32)) X.1 X.2.1 d_M_arrive_105 (by decide) ?_
          refine r_astz X K hw rfl hp.1 (by decide) d_M_arrive_106 (fun H locs hw => ?_)
          have hp := hp.2
          have hl : Lc ls 6 [some (.ref (ad 27)), some (.int x1), none, none, none, none] := hl.mask [true, true, false, false, false, false]
          exact w_M_arrive_107 fz x1 (u2 h 35 (ix (((32 : Int32) * x1) + x3)) (0 : Int32)) ρ hρ hp X K hr hk hl hw
      · rw [if_pos g] at hρ
        have hp := hp.1 g
        refine lv_aload_n X.1 X.2.1 d_M_arrive_66 rfl (hl.at 0 rfl) ?_
        refine r_getr (j := 34) X K hw fg_M_29 rfl rfl d_M_arrive_67 ?_
        refine lv_bipush (v := (32 : Int32)) X.1 X.2.1 d_M_arrive_70 (by decide) ?_
        refine lv_iload_n X.1 X.2.1 d_M_arrive_72 rfl (hl.at 1 rfl) ?_
        refine lv_imul X.1 X.2.1 d_M_arrive_73 ?_
        refine lv_iload_n X.1 X.2.1 d_M_arrive_74 rfl (hl.at 3 rfl) ?_
        refine lv_iadd X.1 X.2.1 d_M_arrive_75 ?_
        refine lv_iload X.1 X.2.1 d_M_arrive_76 (hl.at 4 rfl) ?_
        refine r_ast X K hw rfl hp.1 d_M_arrive_78 (fun H locs hw => ?_)
        have hp := hp.2
        have hl : Lc ls 6 [some (.ref (ad 27)), some (.int x1), none, some (.int x3), none, none] := hl.mask [true, true, false, true, false, false]
        exact w_M_arrive_79 fz x1 x3 (u2 h 34 (ix (((32 : Int32) * x1) + x3)) x4) ρ hρ hp X K hr hk hl hw
    · rw [if_pos g] at hρ
      have hp := hp.1 g
      refine lv_aload_n X.1 X.2.1 d_M_arrive_20 rfl (hl.at 0 rfl) ?_
      refine r_getr (j := 32) X K hw fg_M_22 rfl rfl d_M_arrive_21 ?_
      refine lv_iload_n X.1 X.2.1 d_M_arrive_24 rfl (hl.at 3 rfl) ?_
      refine lv_iconst (v := (2 : Int32)) X.1 X.2.1 d_M_arrive_25 (by decide) ?_
      refine r_ast X K hw rfl hp.1 d_M_arrive_26 (fun H locs hw => ?_)
      have hp := hp.2
      have hl : Lc ls 6 [some (.ref (ad 27)), some (.int x1), none, some (.int x3), none, none] := hl.mask [true, true, false, true, false, false]
      exact w_M_arrive_27 fz x1 x3 (u2 h 32 (ix x3) (2 : Int32)) ρ hρ hp X K hr hk hl hw
  · rw [if_pos g] at hρ
    have hp := hp.1 g
    refine lv_aload_n X.1 X.2.1 d_M_arrive_5 rfl (hl.at 0 rfl) ?_
    refine r_getr (j := 33) X K hw fg_M_25 rfl rfl d_M_arrive_6 ?_
    refine lv_iload_n X.1 X.2.1 d_M_arrive_9 rfl (hl.at 3 rfl) ?_
    refine lv_iconst (v := (1 : Int32)) X.1 X.2.1 d_M_arrive_10 (by decide) ?_
    refine r_astz X K hw rfl hp.1 (by decide) d_M_arrive_11 (fun H locs hw => ?_)
    have hp := hp.2
    refine lv_goto (tgt := 179) X.1 X.2.1 d_M_arrive_12 (by decide) ?_
    exact r_vret X hr hk hw ⟨rfl, hρ.symm⟩ d_M_arrive_179
set_option maxRecDepth 100000 in
theorem c_M_arrive (l : Launch) (D : va_G) (cI cZ : ClassId) (base : Nat) (ad : Nat → Nat) (fz : Nat) (x1 : Int32) (x2 : Int32) (x3 : Int32) (x4 : Int32) (h : HH) (hp : P_M_arrive fz x1 x2 x3 x4 h) : Ct l D cI cZ base ad y_M_arrive b_M_arrive 6 none 2 46 [.ref (ad 27), .int x1, .int x2, .int x3, .int x4] h (pH (B_M_arrive fz x1 x2 x3 x4 h)) := by
  refine Ct.of (by decide) (Nat.le_of_ble_eq_true rfl) (cat_ok rfl) ?_
  intro p e s m args below meth c ls X K hr hk hl hw
  exact w_M_arrive fz x1 x2 x3 x4 h _ rfl hp X K hr hk hl hw
end WALK
