section WALK
variable {p : Program} {l : Launch} {e : Env} {s : State} {m : MethodId} {args : Array Value} {below : List Frame} {meth : Method} {c : Code} {D : va_G} {cI cZ : ClassId} {base : Nat} {ad : Nat → Nat} {R : Room} {Q : State → Prop} {cells slots : Nat}
set_option maxHeartbeats 4000000 in
set_option maxRecDepth 100000 in
theorem w_V_isNode (fz : Nat) (x0 : Int32) (h : HH) (ρ : Int32) (hρ : B_V_isNode fz x0 h = ρ) (hp : P_V_isNode fz x0 h) (X : CallFix p m c b_V_isNode 1 s args TB R_V) (K : KK D cI cZ s) (hr : meth.sig.returnType = (some .boolean)) (hk : meth.locks = false) {ls : Array Slot} {H : Heap} {locs : List Loc} (hl : Lc ls 1 [some (.int x0)]) (hw : Hw D cI cZ base ad s shape h H locs) : W p l e (rmD 0 0) s m args below meth c H locs 0 0 (MQ below (Qw D cI cZ base ad (pI h ρ)) args s 0 0 (fun q => base ≤ q)) (F0 m 0 ls []) := by
  unfold B_V_isNode at hρ
  unfold P_V_isNode at hp
  refine lv_iload_n X.1 X.2.1 d_V_isNode_0 rfl (hl.at 0 rfl) ?_
  refine lv_if_eq (tgt := 9) X.1 X.2.1 d_V_isNode_1 (by decide) (fun g => ?_) (fun g => ?_)
  · rw [if_pos g] at hρ
    have hp := hp.1 g
    refine lv_iconst (v := (1 : Int32)) X.1 X.2.1 d_V_isNode_9 (by decide) ?_
    refine lv_goto (tgt := 14) X.1 X.2.1 d_V_isNode_10 (by decide) ?_
    exact r_zret X hr hk hw (by decide) ⟨congrArg (fun z => some (Value.int z)) hρ, rfl⟩ d_V_isNode_14
  · rw [if_neg g] at hρ
    have hp := hp.2 g
    refine lv_iload_n X.1 X.2.1 d_V_isNode_4 rfl (hl.at 0 rfl) ?_
    refine lv_iconst (v := (1 : Int32)) X.1 X.2.1 d_V_isNode_5 (by decide) ?_
    refine lv_icmp_ne (tgt := 13) X.1 X.2.1 d_V_isNode_6 (by decide) (fun g => ?_) (fun g => ?_)
    · rw [if_neg g] at hρ
      have hp := hp.2 g
      refine lv_iconst (v := (0 : Int32)) X.1 X.2.1 d_V_isNode_13 (by decide) ?_
      exact r_zret X hr hk hw (by decide) ⟨congrArg (fun z => some (Value.int z)) hρ, rfl⟩ d_V_isNode_14
    · rw [if_pos g] at hρ
      have hp := hp.1 g
      refine lv_iconst (v := (1 : Int32)) X.1 X.2.1 d_V_isNode_9 (by decide) ?_
      refine lv_goto (tgt := 14) X.1 X.2.1 d_V_isNode_10 (by decide) ?_
      exact r_zret X hr hk hw (by decide) ⟨congrArg (fun z => some (Value.int z)) hρ, rfl⟩ d_V_isNode_14
set_option maxRecDepth 100000 in
theorem c_V_isNode (l : Launch) (D : va_G) (cI cZ : ClassId) (base : Nat) (ad : Nat → Nat) (fz : Nat) (x0 : Int32) (h : HH) (hp : P_V_isNode fz x0 h) : Ct l D cI cZ base ad y_V_isNode b_V_isNode 1 (some .boolean) 0 0 [.int x0] h (pI h (B_V_isNode fz x0 h)) := by
  refine Ct.of (by decide) (Nat.le_of_ble_eq_true rfl) (cat_ok rfl) ?_
  intro p e s m args below meth c ls X K hr hk hl hw
  exact w_V_isNode fz x0 h _ rfl hp X K hr hk hl hw
set_option maxHeartbeats 4000000 in
set_option maxRecDepth 100000 in
theorem w_V_isBlock (fz : Nat) (x0 : Int32) (h : HH) (ρ : Int32) (hρ : B_V_isBlock fz x0 h = ρ) (hp : P_V_isBlock fz x0 h) (X : CallFix p m c b_V_isBlock 1 s args TB R_V) (K : KK D cI cZ s) (hr : meth.sig.returnType = (some .boolean)) (hk : meth.locks = false) {ls : Array Slot} {H : Heap} {locs : List Loc} (hl : Lc ls 1 [some (.int x0)]) (hw : Hw D cI cZ base ad s shape h H locs) : W p l e (rmD 0 0) s m args below meth c H locs 0 0 (MQ below (Qw D cI cZ base ad (pI h ρ)) args s 0 0 (fun q => base ≤ q)) (F0 m 0 ls []) := by
  unfold B_V_isBlock at hρ
  unfold P_V_isBlock at hp
  refine lv_iload_n X.1 X.2.1 d_V_isBlock_0 rfl (hl.at 0 rfl) ?_
  refine lv_if_lt (tgt := 14) X.1 X.2.1 d_V_isBlock_1 (by decide) (fun g => ?_) (fun g => ?_)
  · rw [if_pos g] at hρ
    have hp := hp.1 g
    refine lv_iconst (v := (0 : Int32)) X.1 X.2.1 d_V_isBlock_14 (by decide) ?_
    exact r_zret X hr hk hw (by decide) ⟨congrArg (fun z => some (Value.int z)) hρ, rfl⟩ d_V_isBlock_15
  · rw [if_neg g] at hρ
    have hp := hp.2 g
    refine lv_iload_n X.1 X.2.1 d_V_isBlock_4 rfl (hl.at 0 rfl) ?_
    refine lv_bipush (v := (32 : Int32)) X.1 X.2.1 d_V_isBlock_5 (by decide) ?_
    refine lv_icmp_ge (tgt := 14) X.1 X.2.1 d_V_isBlock_7 (by decide) (fun g => ?_) (fun g => ?_)
    · rw [if_pos g] at hρ
      have hp := hp.1 g
      refine lv_iconst (v := (0 : Int32)) X.1 X.2.1 d_V_isBlock_14 (by decide) ?_
      exact r_zret X hr hk hw (by decide) ⟨congrArg (fun z => some (Value.int z)) hρ, rfl⟩ d_V_isBlock_15
    · rw [if_neg g] at hρ
      have hp := hp.2 g
      refine lv_iconst (v := (1 : Int32)) X.1 X.2.1 d_V_isBlock_10 (by decide) ?_
      refine lv_goto (tgt := 15) X.1 X.2.1 d_V_isBlock_11 (by decide) ?_
      exact r_zret X hr hk hw (by decide) ⟨congrArg (fun z => some (Value.int z)) hρ, rfl⟩ d_V_isBlock_15
set_option maxRecDepth 100000 in
theorem c_V_isBlock (l : Launch) (D : va_G) (cI cZ : ClassId) (base : Nat) (ad : Nat → Nat) (fz : Nat) (x0 : Int32) (h : HH) (hp : P_V_isBlock fz x0 h) : Ct l D cI cZ base ad y_V_isBlock b_V_isBlock 1 (some .boolean) 0 0 [.int x0] h (pI h (B_V_isBlock fz x0 h)) := by
  refine Ct.of (by decide) (Nat.le_of_ble_eq_true rfl) (cat_ok rfl) ?_
  intro p e s m args below meth c ls X K hr hk hl hw
  exact w_V_isBlock fz x0 h _ rfl hp X K hr hk hl hw
set_option maxHeartbeats 4000000 in
set_option maxRecDepth 100000 in
theorem w_V_nodeOf (fz : Nat) (x1 : Int32) (h : HH) (ρ : Nat) (hρ : B_V_nodeOf fz x1 h = ρ) (hp : P_V_nodeOf fz x1 h) (X : CallFix p m c b_V_nodeOf 2 s args TB R_V) (K : KK D cI cZ s) (hr : meth.sig.returnType = (some (.object "TwinVolume$Node"))) (hk : meth.locks = false) {ls : Array Slot} {H : Heap} {locs : List Loc} (hl : Lc ls 2 [some (.ref (ad 0)), some (.int x1)]) (hw : Hw D cI cZ base ad s shape h H locs) : W p l e (rmD 0 0) s m args below meth c H locs 0 0 (MQ below (Qw D cI cZ base ad (pR ad h ρ)) args s 0 0 (fun q => base ≤ q)) (F0 m 0 ls []) := by
  unfold B_V_nodeOf at hρ
  unfold P_V_nodeOf at hp
  refine lv_iload_n X.1 X.2.1 d_V_nodeOf_0 rfl (hl.at 1 rfl) ?_
  refine lv_if_ne (tgt := 11) X.1 X.2.1 d_V_nodeOf_1 (by decide) (fun g => ?_) (fun g => ?_)
  · rw [if_neg g] at hρ
    have hp := hp.2 g
    refine lv_aload_n X.1 X.2.1 d_V_nodeOf_11 rfl (hl.at 0 rfl) ?_
    refine r_getr (j := 11) X K hw fg_V_18 rfl rfl d_V_nodeOf_12 ?_
    exact r_aret X hr (Or.inl ⟨_, rfl⟩) hk hw ⟨congrArg (fun z => some (Value.ref (ad z))) hρ, rfl⟩ d_V_nodeOf_15
  · rw [if_pos g] at hρ
    have hp := hp.1 g
    refine lv_aload_n X.1 X.2.1 d_V_nodeOf_4 rfl (hl.at 0 rfl) ?_
    refine r_getr (j := 1) X K hw fg_V_12 rfl rfl d_V_nodeOf_5 ?_
    refine lv_goto (tgt := 15) X.1 X.2.1 d_V_nodeOf_8 (by decide) ?_
    exact r_aret X hr (Or.inl ⟨_, rfl⟩) hk hw ⟨congrArg (fun z => some (Value.ref (ad z))) hρ, rfl⟩ d_V_nodeOf_15
set_option maxRecDepth 100000 in
theorem c_V_nodeOf (l : Launch) (D : va_G) (cI cZ : ClassId) (base : Nat) (ad : Nat → Nat) (fz : Nat) (x1 : Int32) (h : HH) (hp : P_V_nodeOf fz x1 h) : Ct l D cI cZ base ad y_V_nodeOf b_V_nodeOf 2 (some (.object "TwinVolume$Node")) 0 0 [.ref (ad 0), .int x1] h (pR ad h (B_V_nodeOf fz x1 h)) := by
  refine Ct.of (by decide) (Nat.le_of_ble_eq_true rfl) (cat_ok rfl) ?_
  intro p e s m args below meth c ls X K hr hk hl hw
  exact w_V_nodeOf fz x1 h _ rfl hp X K hr hk hl hw
theorem isN_V_nodeOf (fz : Nat) (x1 : Int32) (h : HH) : isN (B_V_nodeOf fz x1 h) := by
  unfold B_V_nodeOf
  split
  · exact Or.inl rfl
  · exact Or.inr rfl
set_option maxHeartbeats 4000000 in
set_option maxRecDepth 100000 in
theorem w_T_isFull (fz : Nat)  (h : HH) (ρ : Int32) (hρ : B_T_isFull fz  h = ρ) (hp : P_T_isFull fz  h) (X : CallFix p m c b_T_isFull 1 s args TB R_T) (K : KK D cI cZ s) (hr : meth.sig.returnType = (some .boolean)) (hk : meth.locks = false) {ls : Array Slot} {H : Heap} {locs : List Loc} (hl : Lc ls 1 [some (.ref (ad 21))]) (hw : Hw D cI cZ base ad s shape h H locs) : W p l e (rmD 0 0) s m args below meth c H locs 0 0 (MQ below (Qw D cI cZ base ad (pI h ρ)) args s 0 0 (fun q => base ≤ q)) (F0 m 0 ls []) := by
  unfold B_T_isFull at hρ
  unfold P_T_isFull at hp
  refine lv_aload_n X.1 X.2.1 d_T_isFull_0 rfl (hl.at 0 rfl) ?_
  refine r_geti X K hw fg_T_27 rfl rfl d_T_isFull_1 ?_
  refine lv_sipush (v := (300 : Int32)) X.1 X.2.1 d_T_isFull_4 (by decide) ?_
  refine lv_icmp_lt (tgt := 14) X.1 X.2.1 d_T_isFull_7 (by decide) (fun g => ?_) (fun g => ?_)
  · rw [if_pos g] at hρ
    have hp := hp.1 g
    refine lv_iconst (v := (0 : Int32)) X.1 X.2.1 d_T_isFull_14 (by decide) ?_
    exact r_zret X hr hk hw (by decide) ⟨congrArg (fun z => some (Value.int z)) hρ, rfl⟩ d_T_isFull_15
  · rw [if_neg g] at hρ
    have hp := hp.2 g
    refine lv_iconst (v := (1 : Int32)) X.1 X.2.1 d_T_isFull_10 (by decide) ?_
    refine lv_goto (tgt := 15) X.1 X.2.1 d_T_isFull_11 (by decide) ?_
    exact r_zret X hr hk hw (by decide) ⟨congrArg (fun z => some (Value.int z)) hρ, rfl⟩ d_T_isFull_15
set_option maxRecDepth 100000 in
theorem c_T_isFull (l : Launch) (D : va_G) (cI cZ : ClassId) (base : Nat) (ad : Nat → Nat) (fz : Nat)  (h : HH) (hp : P_T_isFull fz  h) : Ct l D cI cZ base ad y_T_isFull b_T_isFull 1 (some .boolean) 0 0 [.ref (ad 21)] h (pI h (B_T_isFull fz  h)) := by
  refine Ct.of (by decide) (Nat.le_of_ble_eq_true rfl) (cat_ok rfl) ?_
  intro p e s m args below meth c ls X K hr hk hl hw
  exact w_T_isFull fz  h _ rfl hp X K hr hk hl hw
set_option maxHeartbeats 4000000 in
set_option maxRecDepth 100000 in
theorem w_T_isPendingOf (fz : Nat) (x1 : Int32) (x2 : Int32) (h : HH) (ρ : Int32) (hρ : B_T_isPendingOf fz x1 x2 h = ρ) (hp : P_T_isPendingOf fz x1 x2 h) (X : CallFix p m c b_T_isPendingOf 3 s args TB R_T) (K : KK D cI cZ s) (hr : meth.sig.returnType = (some .boolean)) (hk : meth.locks = false) {ls : Array Slot} {H : Heap} {locs : List Loc} (hl : Lc ls 3 [some (.ref (ad 21)), some (.int x1), some (.int x2)]) (hw : Hw D cI cZ base ad s shape h H locs) : W p l e (rmD 0 0) s m args below meth c H locs 0 0 (MQ below (Qw D cI cZ base ad (pI h ρ)) args s 0 0 (fun q => base ≤ q)) (F0 m 0 ls []) := by
  unfold B_T_isPendingOf at hρ
  unfold P_T_isPendingOf at hp
  refine lv_aload_n X.1 X.2.1 d_T_isPendingOf_0 rfl (hl.at 0 rfl) ?_
  refine r_getr (j := 22) X K hw fg_T_9 rfl rfl d_T_isPendingOf_1 ?_
  refine lv_iload_n X.1 X.2.1 d_T_isPendingOf_4 rfl (hl.at 2 rfl) ?_
  refine r_ald X K hw rfl hp.1 d_T_isPendingOf_5 ?_
  have hp := hp.2
  refine lv_iload_n X.1 X.2.1 d_T_isPendingOf_6 rfl (hl.at 1 rfl) ?_
  refine lv_icmp_ne (tgt := 24) X.1 X.2.1 d_T_isPendingOf_7 (by decide) (fun g => ?_) (fun g => ?_)
  · rw [if_neg g] at hρ
    have hp := hp.2 g
    refine lv_iconst (v := (0 : Int32)) X.1 X.2.1 d_T_isPendingOf_24 (by decide) ?_
    exact r_zret X hr hk hw (by decide) ⟨congrArg (fun z => some (Value.int z)) hρ, rfl⟩ d_T_isPendingOf_25
  · rw [if_pos g] at hρ
    have hp := hp.1 g
    refine lv_aload_n X.1 X.2.1 d_T_isPendingOf_10 rfl (hl.at 0 rfl) ?_
    refine r_getr (j := 26) X K hw fg_T_24 rfl rfl d_T_isPendingOf_11 ?_
    refine lv_iload_n X.1 X.2.1 d_T_isPendingOf_14 rfl (hl.at 2 rfl) ?_
    refine r_ald X K hw rfl hp.1 d_T_isPendingOf_15 ?_
    have hp := hp.2
    refine lv_iconst (v := (1 : Int32)) X.1 X.2.1 d_T_isPendingOf_16 (by decide) ?_
    refine lv_icmp_ne (tgt := 24) X.1 X.2.1 d_T_isPendingOf_17 (by decide) (fun g => ?_) (fun g => ?_)
    · rw [if_neg g] at hρ
      have hp := hp.2 g
      refine lv_iconst (v := (0 : Int32)) X.1 X.2.1 d_T_isPendingOf_24 (by decide) ?_
      exact r_zret X hr hk hw (by decide) ⟨congrArg (fun z => some (Value.int z)) hρ, rfl⟩ d_T_isPendingOf_25
    · rw [if_pos g] at hρ
      have hp := hp.1 g
      refine lv_iconst (v := (1 : Int32)) X.1 X.2.1 d_T_isPendingOf_20 (by decide) ?_
      refine lv_goto (tgt := 25) X.1 X.2.1 d_T_isPendingOf_21 (by decide) ?_
      exact r_zret X hr hk hw (by decide) ⟨congrArg (fun z => some (Value.int z)) hρ, rfl⟩ d_T_isPendingOf_25
set_option maxRecDepth 100000 in
theorem c_T_isPendingOf (l : Launch) (D : va_G) (cI cZ : ClassId) (base : Nat) (ad : Nat → Nat) (fz : Nat) (x1 : Int32) (x2 : Int32) (h : HH) (hp : P_T_isPendingOf fz x1 x2 h) : Ct l D cI cZ base ad y_T_isPendingOf b_T_isPendingOf 3 (some .boolean) 0 0 [.ref (ad 21), .int x1, .int x2] h (pI h (B_T_isPendingOf fz x1 x2 h)) := by
  refine Ct.of (by decide) (Nat.le_of_ble_eq_true rfl) (cat_ok rfl) ?_
  intro p e s m args below meth c ls X K hr hk hl hw
  exact w_T_isPendingOf fz x1 x2 h _ rfl hp X K hr hk hl hw
set_option maxHeartbeats 4000000 in
set_option maxRecDepth 100000 in
theorem w_T_countPending_4 (X : CallFix p m c b_T_countPending 4 s args TB R_T) (K : KK D cI cZ s) (hr : meth.sig.returnType = (some .int)) (hk : meth.locks = false) (fz : Nat) : ∀ (fu : Nat) (x1 : Int32) (x2 : Int32) (x3 : Int32) (h : HH) (ρ : Int32) (_ : B_T_countPending_4 fz fu x1 x2 x3 h = ρ) (_ : P_T_countPending_4 fz fu x1 x2 x3 h) {ls : Array Slot} {H : Heap} {locs : List Loc} (_ : Lc ls 4 [some (.ref (ad 21)), some (.int x1), some (.int x2), some (.int x3)]) (_ : Hw D cI cZ base ad s shape h H locs), W p l e (rmD 1 22) s m args below meth c H locs 0 0 (MQ below (Qw D cI cZ base ad (pI h ρ)) args s 0 0 (fun q => base ≤ q)) (F0 m 4 ls []) := by
  intro fu
  induction fu with
  | zero =>
    intro x1 x2 x3 h ρ hρ hp ls H locs hl hw
    exact hp.elim
  | succ fu ih =>
    intro x1 x2 x3 h ρ hρ hp ls H locs hl hw
    rw [B_T_countPending_4] at hρ
    rw [P_T_countPending_4] at hp
    refine lv_iload_n X.1 X.2.1 d_T_countPending_4 rfl (hl.at 3 rfl) ?_
    refine lv_aload_n X.1 X.2.1 d_T_countPending_5 rfl (hl.at 0 rfl) ?_
    refine r_geti X K hw fg_T_27 rfl rfl d_T_countPending_6 ?_
    refine lv_icmp_gt (tgt := 30) X.1 X.2.1 d_T_countPending_9 (by decide) (fun g => ?_) (fun g => ?_)
    · rw [if_pos g] at hρ
      have hp := hp.1 g
      refine lv_iload_n X.1 X.2.1 d_T_countPending_30 rfl (hl.at 2 rfl) ?_
      exact r_iret X hr hk hw ⟨congrArg (fun z => some (Value.int z)) hρ, rfl⟩ d_T_countPending_31
    · rw [if_neg g] at hρ
      have hp := hp.2 g
      refine lv_aload_n X.1 X.2.1 d_T_countPending_12 rfl (hl.at 0 rfl) ?_
      refine lv_iload_n X.1 X.2.1 d_T_countPending_13 rfl (hl.at 1 rfl) ?_
      refine lv_iload_n X.1 X.2.1 d_T_countPending_14 rfl (hl.at 3 rfl) ?_
      refine r_callV (rest := []) X K hw hl.1 mf_T_35 rfl rfl rfl (c_T_isPendingOf l D cI cZ base ad fz x1 x3 h hp.1) (by decide) ⟨Nat.le_refl _, Nat.le_refl _⟩ rfl rfl (Nat.le_of_ble_eq_true rfl) d_T_countPending_15 (fun v h' H locs q hw => ?_)
      obtain ⟨rfl, rfl⟩ := q
      have hp := hp.2
      refine lv_if_eq (tgt := 24) X.1 X.2.1 d_T_countPending_18 (by decide) (fun g => ?_) (fun g => ?_)
      · rw [if_pos g] at hρ
        have hp := hp.1 g
        refine lv_iincL X.1 X.2.1 hl (v := (x3 + 1)) d_T_countPending_24 rfl (congrArg (fun z => x3 + z) (by decide)) (by decide) (fun ls hl => ?_)
        have hl : Lc ls 4 [some (.ref (ad 21)), some (.int x1), some (.int x2), some (.int (x3 + 1))] := hl
        refine lv_goto (tgt := 4) X.1 X.2.1 d_T_countPending_27 (by decide) ?_
        exact ih x1 x2 (x3 + 1) h ρ hρ hp hl hw
      · rw [if_neg g] at hρ
        have hp := hp.2 g
        refine lv_iincL X.1 X.2.1 hl (v := (x2 + 1)) d_T_countPending_21 rfl (congrArg (fun z => x2 + z) (by decide)) (by decide) (fun ls hl => ?_)
        have hl : Lc ls 4 [some (.ref (ad 21)), some (.int x1), some (.int (x2 + 1)), some (.int x3)] := hl
        refine lv_iincL X.1 X.2.1 hl (v := (x3 + 1)) d_T_countPending_24 rfl (congrArg (fun z => x3 + z) (by decide)) (by decide) (fun ls hl => ?_)
        have hl : Lc ls 4 [some (.ref (ad 21)), some (.int x1), some (.int (x2 + 1)), some (.int (x3 + 1))] := hl
        refine lv_goto (tgt := 4) X.1 X.2.1 d_T_countPending_27 (by decide) ?_
        exact ih x1 (x2 + 1) (x3 + 1) h ρ hρ hp hl hw
set_option maxHeartbeats 4000000 in
set_option maxRecDepth 100000 in
theorem w_T_countPending (fz : Nat) (x1 : Int32) (h : HH) (ρ : Int32) (hρ : B_T_countPending fz x1 h = ρ) (hp : P_T_countPending fz x1 h) (X : CallFix p m c b_T_countPending 4 s args TB R_T) (K : KK D cI cZ s) (hr : meth.sig.returnType = (some .int)) (hk : meth.locks = false) {ls : Array Slot} {H : Heap} {locs : List Loc} (hl : Lc ls 4 [some (.ref (ad 21)), some (.int x1), none, none]) (hw : Hw D cI cZ base ad s shape h H locs) : W p l e (rmD 1 22) s m args below meth c H locs 0 0 (MQ below (Qw D cI cZ base ad (pI h ρ)) args s 0 0 (fun q => base ≤ q)) (F0 m 0 ls []) := by
  unfold B_T_countPending at hρ
  unfold P_T_countPending at hp
  refine lv_iconst (v := (0 : Int32)) X.1 X.2.1 d_T_countPending_0 (by decide) ?_
  refine r_istore_n X hl d_T_countPending_1 rfl (by decide) (fun ls hl => ?_)
  have hl : Lc ls 4 [some (.ref (ad 21)), some (.int x1), some (.int (0 : Int32)), none] := hl
  refine lv_iconst (v := (1 : Int32)) X.1 X.2.1 d_T_countPending_2 (by decide) ?_
  refine r_istore_n X hl d_T_countPending_3 rfl (by decide) (fun ls hl => ?_)
  have hl : Lc ls 4 [some (.ref (ad 21)), some (.int x1), some (.int (0 : Int32)), some (.int (1 : Int32))] := hl
  exact w_T_countPending_4 X K hr hk fz fz x1 (0 : Int32) (1 : Int32) h ρ hρ hp hl hw
set_option maxRecDepth 100000 in
theorem c_T_countPending (l : Launch) (D : va_G) (cI cZ : ClassId) (base : Nat) (ad : Nat → Nat) (fz : Nat) (x1 : Int32) (h : HH) (hp : P_T_countPending fz x1 h) : Ct l D cI cZ base ad y_T_countPending b_T_countPending 4 (some .int) 1 22 [.ref (ad 21), .int x1] h (pI h (B_T_countPending fz x1 h)) := by
  refine Ct.of (by decide) (Nat.le_of_ble_eq_true rfl) (cat_ok rfl) ?_
  intro p e s m args below meth c ls X K hr hk hl hw
  exact w_T_countPending fz x1 h _ rfl hp X K hr hk hl hw
set_option maxHeartbeats 4000000 in
set_option maxRecDepth 100000 in
theorem w_T_pendingBlocks_4 (X : CallFix p m c b_T_pendingBlocks 4 s args TB R_T) (K : KK D cI cZ s) (hr : meth.sig.returnType = (some .int)) (hk : meth.locks = false) (fz : Nat) : ∀ (fu : Nat) (x1 : Int32) (x2 : Int32) (x3 : Int32) (h : HH) (ρ : Int32) (_ : B_T_pendingBlocks_4 fz fu x1 x2 x3 h = ρ) (_ : P_T_pendingBlocks_4 fz fu x1 x2 x3 h) {ls : Array Slot} {H : Heap} {locs : List Loc} (_ : Lc ls 4 [some (.ref (ad 21)), some (.int x1), some (.int x2), some (.int x3)]) (_ : Hw D cI cZ base ad s shape h H locs), W p l e (rmD 1 22) s m args below meth c H locs 0 0 (MQ below (Qw D cI cZ base ad (pI h ρ)) args s 0 0 (fun q => base ≤ q)) (F0 m 4 ls []) := by
  intro fu
  induction fu with
  | zero =>
    intro x1 x2 x3 h ρ hρ hp ls H locs hl hw
    exact hp.elim
  | succ fu ih =>
    intro x1 x2 x3 h ρ hρ hp ls H locs hl hw
    rw [B_T_pendingBlocks_4] at hρ
    rw [P_T_pendingBlocks_4] at hp
    refine lv_iload_n X.1 X.2.1 d_T_pendingBlocks_4 rfl (hl.at 3 rfl) ?_
    refine lv_aload_n X.1 X.2.1 d_T_pendingBlocks_5 rfl (hl.at 0 rfl) ?_
    refine r_geti X K hw fg_T_27 rfl rfl d_T_pendingBlocks_6 ?_
    refine lv_icmp_gt (tgt := 38) X.1 X.2.1 d_T_pendingBlocks_9 (by decide) (fun g => ?_) (fun g => ?_)
    · rw [if_pos g] at hρ
      have hp := hp.1 g
      refine lv_iload_n X.1 X.2.1 d_T_pendingBlocks_38 rfl (hl.at 2 rfl) ?_
      exact r_iret X hr hk hw ⟨congrArg (fun z => some (Value.int z)) hρ, rfl⟩ d_T_pendingBlocks_39
    · rw [if_neg g] at hρ
      have hp := hp.2 g
      refine lv_aload_n X.1 X.2.1 d_T_pendingBlocks_12 rfl (hl.at 0 rfl) ?_
      refine lv_iload_n X.1 X.2.1 d_T_pendingBlocks_13 rfl (hl.at 1 rfl) ?_
      refine lv_iload_n X.1 X.2.1 d_T_pendingBlocks_14 rfl (hl.at 3 rfl) ?_
      refine r_callV (rest := []) X K hw hl.1 mf_T_35 rfl rfl rfl (c_T_isPendingOf l D cI cZ base ad fz x1 x3 h hp.1) (by decide) ⟨Nat.le_refl _, Nat.le_refl _⟩ rfl rfl (Nat.le_of_ble_eq_true rfl) d_T_pendingBlocks_15 (fun v h' H locs q hw => ?_)
      obtain ⟨rfl, rfl⟩ := q
      have hp := hp.2
      refine lv_if_eq (tgt := 32) X.1 X.2.1 d_T_pendingBlocks_18 (by decide) (fun g => ?_) (fun g => ?_)
      · rw [if_pos g] at hρ
        have hp := hp.1 g
        refine lv_iincL X.1 X.2.1 hl (v := (x3 + 1)) d_T_pendingBlocks_32 rfl (congrArg (fun z => x3 + z) (by decide)) (by decide) (fun ls hl => ?_)
        have hl : Lc ls 4 [some (.ref (ad 21)), some (.int x1), some (.int x2), some (.int (x3 + 1))] := hl
        refine lv_goto (tgt := 4) X.1 X.2.1 d_T_pendingBlocks_35 (by decide) ?_
        exact ih x1 x2 (x3 + 1) h ρ hρ hp hl hw
      · rw [if_neg g] at hρ
        have hp := hp.2 g
        refine lv_iload_n X.1 X.2.1 d_T_pendingBlocks_21 rfl (hl.at 2 rfl) ?_
        refine lv_iconst (v := (1 : Int32)) X.1 X.2.1 d_T_pendingBlocks_22 (by decide) ?_
        refine lv_aload_n X.1 X.2.1 d_T_pendingBlocks_23 rfl (hl.at 0 rfl) ?_
        refine r_getr (j := 23) X K hw fg_T_15 rfl rfl d_T_pendingBlocks_24 ?_
        refine lv_iload_n X.1 X.2.1 d_T_pendingBlocks_27 rfl (hl.at 3 rfl) ?_
        refine r_ald X K hw rfl hp.1 d_T_pendingBlocks_28 ?_
        have hp := hp.2
        refine lv_ishl X.1 X.2.1 d_T_pendingBlocks_29 ?_
        refine lv_ior X.1 X.2.1 d_T_pendingBlocks_30 ?_
        refine r_istore_n X hl d_T_pendingBlocks_31 rfl (by decide) (fun ls hl => ?_)
        have hl : Lc ls 4 [some (.ref (ad 21)), some (.int x1), some (.int (x2 ||| ((1 : Int32) <<< ((h 23 (ix x3)) &&& 31)))), some (.int x3)] := hl
        refine lv_iincL X.1 X.2.1 hl (v := (x3 + 1)) d_T_pendingBlocks_32 rfl (congrArg (fun z => x3 + z) (by decide)) (by decide) (fun ls hl => ?_)
        have hl : Lc ls 4 [some (.ref (ad 21)), some (.int x1), some (.int (x2 ||| ((1 : Int32) <<< ((h 23 (ix x3)) &&& 31)))), some (.int (x3 + 1))] := hl
        refine lv_goto (tgt := 4) X.1 X.2.1 d_T_pendingBlocks_35 (by decide) ?_
        exact ih x1 (x2 ||| ((1 : Int32) <<< ((h 23 (ix x3)) &&& 31))) (x3 + 1) h ρ hρ hp hl hw
set_option maxHeartbeats 4000000 in
set_option maxRecDepth 100000 in
theorem w_T_pendingBlocks (fz : Nat) (x1 : Int32) (h : HH) (ρ : Int32) (hρ : B_T_pendingBlocks fz x1 h = ρ) (hp : P_T_pendingBlocks fz x1 h) (X : CallFix p m c b_T_pendingBlocks 4 s args TB R_T) (K : KK D cI cZ s) (hr : meth.sig.returnType = (some .int)) (hk : meth.locks = false) {ls : Array Slot} {H : Heap} {locs : List Loc} (hl : Lc ls 4 [some (.ref (ad 21)), some (.int x1), none, none]) (hw : Hw D cI cZ base ad s shape h H locs) : W p l e (rmD 1 22) s m args below meth c H locs 0 0 (MQ below (Qw D cI cZ base ad (pI h ρ)) args s 0 0 (fun q => base ≤ q)) (F0 m 0 ls []) := by
  unfold B_T_pendingBlocks at hρ
  unfold P_T_pendingBlocks at hp
  refine lv_iconst (v := (0 : Int32)) X.1 X.2.1 d_T_pendingBlocks_0 (by decide) ?_
  refine r_istore_n X hl d_T_pendingBlocks_1 rfl (by decide) (fun ls hl => ?_)
  have hl : Lc ls 4 [some (.ref (ad 21)), some (.int x1), some (.int (0 : Int32)), none] := hl
  refine lv_iconst (v := (1 : Int32)) X.1 X.2.1 d_T_pendingBlocks_2 (by decide) ?_
  refine r_istore_n X hl d_T_pendingBlocks_3 rfl (by decide) (fun ls hl => ?_)
  have hl : Lc ls 4 [some (.ref (ad 21)), some (.int x1), some (.int (0 : Int32)), some (.int (1 : Int32))] := hl
  exact w_T_pendingBlocks_4 X K hr hk fz fz x1 (0 : Int32) (1 : Int32) h ρ hρ hp hl hw
set_option maxRecDepth 100000 in
theorem c_T_pendingBlocks (l : Launch) (D : va_G) (cI cZ : ClassId) (base : Nat) (ad : Nat → Nat) (fz : Nat) (x1 : Int32) (h : HH) (hp : P_T_pendingBlocks fz x1 h) : Ct l D cI cZ base ad y_T_pendingBlocks b_T_pendingBlocks 4 (some .int) 1 22 [.ref (ad 21), .int x1] h (pI h (B_T_pendingBlocks fz x1 h)) := by
  refine Ct.of (by decide) (Nat.le_of_ble_eq_true rfl) (cat_ok rfl) ?_
  intro p e s m args below meth c ls X K hr hk hl hw
  exact w_T_pendingBlocks fz x1 h _ rfl hp X K hr hk hl hw
set_option maxHeartbeats 4000000 in
set_option maxRecDepth 100000 in
theorem w_V_blocksOfExtent (fz : Nat) (x0 : Int32) (h : HH) (ρ : Int32) (hρ : B_V_blocksOfExtent fz x0 h = ρ) (hp : P_V_blocksOfExtent fz x0 h) (X : CallFix p m c b_V_blocksOfExtent 1 s args TB R_V) (K : KK D cI cZ s) (hr : meth.sig.returnType = (some .int)) (hk : meth.locks = false) {ls : Array Slot} {H : Heap} {locs : List Loc} (hl : Lc ls 1 [some (.int x0)]) (hw : Hw D cI cZ base ad s shape h H locs) : W p l e (rmD 0 0) s m args below meth c H locs 0 0 (MQ below (Qw D cI cZ base ad (pI h ρ)) args s 0 0 (fun q => base ≤ q)) (F0 m 0 ls []) := by
  unfold B_V_blocksOfExtent at hρ
  unfold P_V_blocksOfExtent at hp
  refine lv_bipush (v := (15 : Int32)) X.1 X.2.1 d_V_blocksOfExtent_0 (by decide) ?_
  refine lv_iload_n X.1 X.2.1 d_V_blocksOfExtent_2 rfl (hl.at 0 rfl) ?_
  refine lv_iconst (v := (4 : Int32)) X.1 X.2.1 d_V_blocksOfExtent_3 (by decide) ?_
  refine lv_imul X.1 X.2.1 d_V_blocksOfExtent_4 ?_
  refine lv_ishl X.1 X.2.1 d_V_blocksOfExtent_5 ?_
  exact r_iret X hr hk hw ⟨congrArg (fun z => some (Value.int z)) hρ, rfl⟩ d_V_blocksOfExtent_6
set_option maxRecDepth 100000 in
theorem c_V_blocksOfExtent (l : Launch) (D : va_G) (cI cZ : ClassId) (base : Nat) (ad : Nat → Nat) (fz : Nat) (x0 : Int32) (h : HH) (hp : P_V_blocksOfExtent fz x0 h) : Ct l D cI cZ base ad y_V_blocksOfExtent b_V_blocksOfExtent 1 (some .int) 0 0 [.int x0] h (pI h (B_V_blocksOfExtent fz x0 h)) := by
  refine Ct.of (by decide) (Nat.le_of_ble_eq_true rfl) (cat_ok rfl) ?_
  intro p e s m args below meth c ls X K hr hk hl hw
  exact w_V_blocksOfExtent fz x0 h _ rfl hp X K hr hk hl hw
set_option maxHeartbeats 4000000 in
set_option maxRecDepth 100000 in
theorem w_E_placeFor_48 (X : CallFix p m c b_E_placeFor 4 s args TB R_E) (K : KK D cI cZ s) (hr : meth.sig.returnType = (some .int)) (hk : meth.locks = false) (fz : Nat) : ∀ (fu : Nat) (i0 : Nat) (n0 : isN i0) (x2 : Int32) (x3 : Int32) (h : HH) (ρ : Int32) (_ : B_E_placeFor_48 fz fu i0 x2 x3 h = ρ) (_ : P_E_placeFor_48 fz fu i0 x2 x3 h) {ls : Array Slot} {H : Heap} {locs : List Loc} (_ : Lc ls 4 [some (.ref (ad (i0 + 2))), none, some (.int x2), some (.int x3)]) (_ : Hw D cI cZ base ad s shape h H locs), W p l e (rmD 1 20) s m args below meth c H locs 0 0 (MQ below (Qw D cI cZ base ad (pI h ρ)) args s 0 0 (fun q => base ≤ q)) (F0 m 48 ls []) := by
  intro fu
  induction fu with
  | zero =>
    intro i0 n0 x2 x3 h ρ hρ hp ls H locs hl hw
    exact hp.elim
  | succ fu ih =>
    intro i0 n0 x2 x3 h ρ hρ hp ls H locs hl hw
    rw [B_E_placeFor_48] at hρ
    rw [P_E_placeFor_48] at hp
    refine lv_iload_n X.1 X.2.1 d_E_placeFor_48 rfl (hl.at 3 rfl) ?_
    refine lv_if_lt (tgt := 74) X.1 X.2.1 d_E_placeFor_49 (by decide) (fun g => ?_) (fun g => ?_)
    · rw [if_pos g] at hρ
      have hp := hp.1 g
      refine lv_iconst (v := (-1 : Int32)) X.1 X.2.1 d_E_placeFor_74 (by decide) ?_
      exact r_iret X hr hk hw ⟨congrArg (fun z => some (Value.int z)) hρ, rfl⟩ d_E_placeFor_75
    · rw [if_neg g] at hρ
      have hp := hp.2 g
      refine lv_aload_n X.1 X.2.1 d_E_placeFor_52 rfl (hl.at 0 rfl) ?_
      refine r_getr (j := (i0 + 3)) X K hw fg_E_9 (shp_E n0) rfl d_E_placeFor_53 ?_
      refine lv_iload_n X.1 X.2.1 d_E_placeFor_56 rfl (hl.at 3 rfl) ?_
      refine r_ald X K hw (sha_3 n0) hp.1 d_E_placeFor_57 ?_
      have hp := hp.2
      refine r_callSN (rest := []) X K hw hl.1 K.2 mf_E_19 (c_V_blocksOfExtent l D cI cZ base ad fz (h (i0 + 3) (ix x3)) h hp.1) (by decide) ⟨Nat.le_refl _, Nat.le_refl _⟩ rfl rfl (Nat.le_of_ble_eq_true rfl) d_E_placeFor_58 (fun v h' H locs q hw => ?_)
      obtain ⟨rfl, rfl⟩ := q
      have hp := hp.2
      refine lv_iload_n X.1 X.2.1 d_E_placeFor_61 rfl (hl.at 2 rfl) ?_
      refine lv_iand X.1 X.2.1 d_E_placeFor_62 ?_
      refine lv_if_ne (tgt := 68) X.1 X.2.1 d_E_placeFor_63 (by decide) (fun g => ?_) (fun g => ?_)
      · rw [if_neg g] at hρ
        have hp := hp.2 g
        refine lv_iincL X.1 X.2.1 hl (v := (x3 + (-1))) d_E_placeFor_68 rfl (congrArg (fun z => x3 + z) (by decide)) (by decide) (fun ls hl => ?_)
        have hl : Lc ls 4 [some (.ref (ad (i0 + 2))), none, some (.int x2), some (.int (x3 + (-1)))] := hl
        refine lv_goto (tgt := 48) X.1 X.2.1 d_E_placeFor_71 (by decide) ?_
        exact ih i0 n0 x2 (x3 + (-1)) h ρ hρ hp hl hw
      · rw [if_pos g] at hρ
        have hp := hp.1 g
        refine lv_iload_n X.1 X.2.1 d_E_placeFor_66 rfl (hl.at 3 rfl) ?_
        exact r_iret X hr hk hw ⟨congrArg (fun z => some (Value.int z)) hρ, rfl⟩ d_E_placeFor_67
set_option maxHeartbeats 4000000 in
set_option maxRecDepth 100000 in
theorem w_E_placeFor_2 (X : CallFix p m c b_E_placeFor 4 s args TB R_E) (K : KK D cI cZ s) (hr : meth.sig.returnType = (some .int)) (hk : meth.locks = false) (fz : Nat) : ∀ (fu : Nat) (i0 : Nat) (n0 : isN i0) (x1 : Int32) (x2 : Int32) (x3 : Int32) (h : HH) (ρ : Int32) (_ : B_E_placeFor_2 fz fu i0 x1 x2 x3 h = ρ) (_ : P_E_placeFor_2 fz fu i0 x1 x2 x3 h) {ls : Array Slot} {H : Heap} {locs : List Loc} (_ : Lc ls 4 [some (.ref (ad (i0 + 2))), some (.int x1), some (.int x2), some (.int x3)]) (_ : Hw D cI cZ base ad s shape h H locs), W p l e (rmD 1 20) s m args below meth c H locs 0 0 (MQ below (Qw D cI cZ base ad (pI h ρ)) args s 0 0 (fun q => base ≤ q)) (F0 m 2 ls []) := by
  intro fu
  induction fu with
  | zero =>
    intro i0 n0 x1 x2 x3 h ρ hρ hp ls H locs hl hw
    exact hp.elim
  | succ fu ih =>
    intro i0 n0 x1 x2 x3 h ρ hρ hp ls H locs hl hw
    rw [B_E_placeFor_2] at hρ
    rw [P_E_placeFor_2] at hp
    refine lv_iload_n X.1 X.2.1 d_E_placeFor_2 rfl (hl.at 3 rfl) ?_
    refine lv_aload_n X.1 X.2.1 d_E_placeFor_3 rfl (hl.at 0 rfl) ?_
    refine r_geti X K hw fg_E_15 (shp_E n0) rfl d_E_placeFor_4 ?_
    refine lv_icmp_ge (tgt := 28) X.1 X.2.1 d_E_placeFor_7 (by decide) (fun g => ?_) (fun g => ?_)
    · rw [if_pos g] at hρ
      have hp := hp.1 g
      refine lv_aload_n X.1 X.2.1 d_E_placeFor_28 rfl (hl.at 0 rfl) ?_
      refine r_geti X K hw fg_E_15 (shp_E n0) rfl d_E_placeFor_29 ?_
      refine lv_iconst (v := (3 : Int32)) X.1 X.2.1 d_E_placeFor_32 (by decide) ?_
      refine lv_icmp_ge (tgt := 41) X.1 X.2.1 d_E_placeFor_33 (by decide) (fun g => ?_) (fun g => ?_)
      · rw [if_pos g] at hρ
        have hp := hp.1 g
        refine lv_aload_n X.1 X.2.1 d_E_placeFor_41 rfl (hl.at 0 rfl) ?_
        refine r_geti X K hw fg_E_15 (shp_E n0) rfl d_E_placeFor_42 ?_
        refine lv_iconst (v := (1 : Int32)) X.1 X.2.1 d_E_placeFor_45 (by decide) ?_
        refine lv_isub X.1 X.2.1 d_E_placeFor_46 ?_
        refine r_istore_n X hl d_E_placeFor_47 rfl (by decide) (fun ls hl => ?_)
        have hl : Lc ls 4 [some (.ref (ad (i0 + 2))), some (.int x1), some (.int x2), some (.int ((h (i0 + 2) 1) - (1 : Int32)))] := hl
        have hl : Lc ls 4 [some (.ref (ad (i0 + 2))), none, some (.int x2), some (.int ((h (i0 + 2) 1) - (1 : Int32)))] := hl.mask [true, false, true, true]
        exact w_E_placeFor_48 X K hr hk fz fz i0 n0 x2 ((h (i0 + 2) 1) - (1 : Int32)) h ρ hρ hp hl hw
      · rw [if_neg g] at hρ
        have hp := hp.2 g
        refine lv_aload_n X.1 X.2.1 d_E_placeFor_36 rfl (hl.at 0 rfl) ?_
        refine r_geti X K hw fg_E_15 (shp_E n0) rfl d_E_placeFor_37 ?_
        exact r_iret X hr hk hw ⟨congrArg (fun z => some (Value.int z)) hρ, rfl⟩ d_E_placeFor_40
    · rw [if_neg g] at hρ
      have hp := hp.2 g
      refine lv_aload_n X.1 X.2.1 d_E_placeFor_10 rfl (hl.at 0 rfl) ?_
      refine r_getr (j := (i0 + 3)) X K hw fg_E_9 (shp_E n0) rfl d_E_placeFor_11 ?_
      refine lv_iload_n X.1 X.2.1 d_E_placeFor_14 rfl (hl.at 3 rfl) ?_
      refine r_ald X K hw (sha_3 n0) hp.1 d_E_placeFor_15 ?_
      have hp := hp.2
      refine lv_iload_n X.1 X.2.1 d_E_placeFor_16 rfl (hl.at 1 rfl) ?_
      refine lv_icmp_ne (tgt := 22) X.1 X.2.1 d_E_placeFor_17 (by decide) (fun g => ?_) (fun g => ?_)
      · rw [if_neg g] at hρ
        have hp := hp.2 g
        refine lv_iincL X.1 X.2.1 hl (v := (x3 + 1)) d_E_placeFor_22 rfl (congrArg (fun z => x3 + z) (by decide)) (by decide) (fun ls hl => ?_)
        have hl : Lc ls 4 [some (.ref (ad (i0 + 2))), some (.int x1), some (.int x2), some (.int (x3 + 1))] := hl
        refine lv_goto (tgt := 2) X.1 X.2.1 d_E_placeFor_25 (by decide) ?_
        exact ih i0 n0 x1 x2 (x3 + 1) h ρ hρ hp hl hw
      · rw [if_pos g] at hρ
        have hp := hp.1 g
        refine lv_iload_n X.1 X.2.1 d_E_placeFor_20 rfl (hl.at 3 rfl) ?_
        exact r_iret X hr hk hw ⟨congrArg (fun z => some (Value.int z)) hρ, rfl⟩ d_E_placeFor_21
set_option maxHeartbeats 4000000 in
set_option maxRecDepth 100000 in
theorem w_E_placeFor (fz : Nat) (i0 : Nat) (n0 : isN i0) (x1 : Int32) (x2 : Int32) (h : HH) (ρ : Int32) (hρ : B_E_placeFor fz i0 x1 x2 h = ρ) (hp : P_E_placeFor fz i0 x1 x2 h) (X : CallFix p m c b_E_placeFor 4 s args TB R_E) (K : KK D cI cZ s) (hr : meth.sig.returnType = (some .int)) (hk : meth.locks = false) {ls : Array Slot} {H : Heap} {locs : List Loc} (hl : Lc ls 4 [some (.ref (ad (i0 + 2))), some (.int x1), some (.int x2), none]) (hw : Hw D cI cZ base ad s shape h H locs) : W p l e (rmD 1 20) s m args below meth c H locs 0 0 (MQ below (Qw D cI cZ base ad (pI h ρ)) args s 0 0 (fun q => base ≤ q)) (F0 m 0 ls []) := by
  unfold B_E_placeFor at hρ
  unfold P_E_placeFor at hp
  refine lv_iconst (v := (0 : Int32)) X.1 X.2.1 d_E_placeFor_0 (by decide) ?_
  refine r_istore_n X hl d_E_placeFor_1 rfl (by decide) (fun ls hl => ?_)
  have hl : Lc ls 4 [some (.ref (ad (i0 + 2))), some (.int x1), some (.int x2), some (.int (0 : Int32))] := hl
  exact w_E_placeFor_2 X K hr hk fz fz i0 n0 x1 x2 (0 : Int32) h ρ hρ hp hl hw
set_option maxRecDepth 100000 in
theorem c_E_placeFor (l : Launch) (D : va_G) (cI cZ : ClassId) (base : Nat) (ad : Nat → Nat) (fz : Nat) (i0 : Nat) (n0 : isN i0) (x1 : Int32) (x2 : Int32) (h : HH) (hp : P_E_placeFor fz i0 x1 x2 h) : Ct l D cI cZ base ad y_E_placeFor b_E_placeFor 4 (some .int) 1 20 [.ref (ad (i0 + 2)), .int x1, .int x2] h (pI h (B_E_placeFor fz i0 x1 x2 h)) := by
  refine Ct.of (by decide) (Nat.le_of_ble_eq_true rfl) (cat_ok rfl) ?_
  intro p e s m args below meth c ls X K hr hk hl hw
  exact w_E_placeFor fz i0 n0 x1 x2 h _ rfl hp X K hr hk hl hw
set_option maxHeartbeats 4000000 in
set_option maxRecDepth 100000 in
theorem w_E_putInFront_43 (fz : Nat) (i0 : Nat) (n0 : isN i0) (x2 : Int32) (h : HH) (ρ : HH) (hρ : B_E_putInFront_43 fz i0 x2 h = ρ) (hp : P_E_putInFront_43 fz i0 x2 h) (X : CallFix p m c b_E_putInFront 4 s args TB R_E) (K : KK D cI cZ s) (hr : meth.sig.returnType = none) (hk : meth.locks = false) {ls : Array Slot} {H : Heap} {locs : List Loc} (hl : Lc ls 4 [some (.ref (ad (i0 + 2))), none, some (.int x2), none]) (hw : Hw D cI cZ base ad s shape h H locs) : W p l e (rmD 0 0) s m args below meth c H locs 0 0 (MQ below (Qw D cI cZ base ad (pH ρ)) args s 0 0 (fun q => base ≤ q)) (F0 m 43 ls []) := by
  unfold B_E_putInFront_43 at hρ
  unfold P_E_putInFront_43 at hp
  refine lv_iload_n X.1 X.2.1 d_E_putInFront_43 rfl (hl.at 2 rfl) ?_
  refine lv_aload_n X.1 X.2.1 d_E_putInFront_44 rfl (hl.at 0 rfl) ?_
  refine r_geti X K hw fg_E_15 (shp_E n0) rfl d_E_putInFront_45 ?_
  refine lv_icmp_ne (tgt := 61) X.1 X.2.1 d_E_putInFront_48 (by decide) (fun g => ?_) (fun g => ?_)
  · rw [if_neg g] at hρ
    have hp := hp.2 g
    exact r_vret X hr hk hw ⟨rfl, hρ.symm⟩ d_E_putInFront_61
  · rw [if_pos g] at hρ
    have hp := hp.1 g
    refine lv_aload_n X.1 X.2.1 d_E_putInFront_51 rfl (hl.at 0 rfl) ?_
    refine lv_dup X.1 X.2.1 d_E_putInFront_52 rfl ?_
    refine r_geti X K hw fg_E_15 (shp_E n0) rfl d_E_putInFront_53 ?_
    refine lv_iconst (v := (1 : Int32)) X.1 X.2.1 d_E_putInFront_56 (by decide) ?_
    refine lv_iadd X.1 X.2.1 d_E_putInFront_57 ?_
    refine r_put X K hw fp_E_15 (shp_E n0) rfl rfl rfl d_E_putInFront_58 (fun H locs hw => ?_)
    exact r_vret X hr hk hw ⟨rfl, hρ.symm⟩ d_E_putInFront_61
set_option maxHeartbeats 4000000 in
set_option maxRecDepth 100000 in
theorem w_E_putInFront_12 (X : CallFix p m c b_E_putInFront 4 s args TB R_E) (K : KK D cI cZ s) (hr : meth.sig.returnType = none) (hk : meth.locks = false) (fz : Nat) : ∀ (fu : Nat) (i0 : Nat) (n0 : isN i0) (x1 : Int32) (x2 : Int32) (x3 : Int32) (h : HH) (ρ : HH) (_ : B_E_putInFront_12 fz fu i0 x1 x2 x3 h = ρ) (_ : P_E_putInFront_12 fz fu i0 x1 x2 x3 h) {ls : Array Slot} {H : Heap} {locs : List Loc} (_ : Lc ls 4 [some (.ref (ad (i0 + 2))), some (.int x1), some (.int x2), some (.int x3)]) (_ : Hw D cI cZ base ad s shape h H locs), W p l e (rmD 0 0) s m args below meth c H locs 0 0 (MQ below (Qw D cI cZ base ad (pH ρ)) args s 0 0 (fun q => base ≤ q)) (F0 m 12 ls []) := by
  intro fu
  induction fu with
  | zero =>
    intro i0 n0 x1 x2 x3 h ρ hρ hp ls H locs hl hw
    exact hp.elim
  | succ fu ih =>
    intro i0 n0 x1 x2 x3 h ρ hρ hp ls H locs hl hw
    rw [B_E_putInFront_12] at hρ
    rw [P_E_putInFront_12] at hp
    refine lv_iload_n X.1 X.2.1 d_E_putInFront_12 rfl (hl.at 3 rfl) ?_
    refine lv_if_le (tgt := 36) X.1 X.2.1 d_E_putInFront_13 (by decide) (fun g => ?_) (fun g => ?_)
    · rw [if_pos g] at hρ
      have hp := hp.1 g
      refine lv_aload_n X.1 X.2.1 d_E_putInFront_36 rfl (hl.at 0 rfl) ?_
      refine r_getr (j := (i0 + 3)) X K hw fg_E_9 (shp_E n0) rfl d_E_putInFront_37 ?_
      refine lv_iconst (v := (0 : Int32)) X.1 X.2.1 d_E_putInFront_40 (by decide) ?_
      refine lv_iload_n X.1 X.2.1 d_E_putInFront_41 rfl (hl.at 1 rfl) ?_
      refine r_ast X K hw (sha_3 n0) hp.1 d_E_putInFront_42 (fun H locs hw => ?_)
      have hp := hp.2
      have hl : Lc ls 4 [some (.ref (ad (i0 + 2))), none, some (.int x2), none] := hl.mask [true, false, true, false]
      exact w_E_putInFront_43 fz i0 n0 x2 (u2 h (i0 + 3) (ix (0 : Int32)) x1) ρ hρ hp X K hr hk hl hw
    · rw [if_neg g] at hρ
      have hp := hp.2 g
      refine lv_aload_n X.1 X.2.1 d_E_putInFront_16 rfl (hl.at 0 rfl) ?_
      refine r_getr (j := (i0 + 3)) X K hw fg_E_9 (shp_E n0) rfl d_E_putInFront_17 ?_
      refine lv_iload_n X.1 X.2.1 d_E_putInFront_20 rfl (hl.at 3 rfl) ?_
      refine lv_aload_n X.1 X.2.1 d_E_putInFront_21 rfl (hl.at 0 rfl) ?_
      refine r_getr (j := (i0 + 3)) X K hw fg_E_9 (shp_E n0) rfl d_E_putInFront_22 ?_
      refine lv_iload_n X.1 X.2.1 d_E_putInFront_25 rfl (hl.at 3 rfl) ?_
      refine lv_iconst (v := (1 : Int32)) X.1 X.2.1 d_E_putInFront_26 (by decide) ?_
      refine lv_isub X.1 X.2.1 d_E_putInFront_27 ?_
      refine r_ald X K hw (sha_3 n0) hp.1 d_E_putInFront_28 ?_
      have hp := hp.2
      refine r_ast X K hw (sha_3 n0) hp.1 d_E_putInFront_29 (fun H locs hw => ?_)
      have hp := hp.2
      refine lv_iincL X.1 X.2.1 hl (v := (x3 + (-1))) d_E_putInFront_30 rfl (congrArg (fun z => x3 + z) (by decide)) (by decide) (fun ls hl => ?_)
      have hl : Lc ls 4 [some (.ref (ad (i0 + 2))), some (.int x1), some (.int x2), some (.int (x3 + (-1)))] := hl
      refine lv_goto (tgt := 12) X.1 X.2.1 d_E_putInFront_33 (by decide) ?_
      exact ih i0 n0 x1 x2 (x3 + (-1)) (u2 h (i0 + 3) (ix x3) (h (i0 + 3) (ix (x3 - (1 : Int32))))) ρ hρ hp hl hw
set_option maxHeartbeats 4000000 in
set_option maxRecDepth 100000 in
theorem w_E_putInFront (fz : Nat) (i0 : Nat) (n0 : isN i0) (x1 : Int32) (x2 : Int32) (h : HH) (ρ : HH) (hρ : B_E_putInFront fz i0 x1 x2 h = ρ) (hp : P_E_putInFront fz i0 x1 x2 h) (X : CallFix p m c b_E_putInFront 4 s args TB R_E) (K : KK D cI cZ s) (hr : meth.sig.returnType = none) (hk : meth.locks = false) {ls : Array Slot} {H : Heap} {locs : List Loc} (hl : Lc ls 4 [some (.ref (ad (i0 + 2))), some (.int x1), some (.int x2), none]) (hw : Hw D cI cZ base ad s shape h H locs) : W p l e (rmD 0 0) s m args below meth c H locs 0 0 (MQ below (Qw D cI cZ base ad (pH ρ)) args s 0 0 (fun q => base ≤ q)) (F0 m 0 ls []) := by
  unfold B_E_putInFront at hρ
  unfold P_E_putInFront at hp
  refine lv_iload_n X.1 X.2.1 d_E_putInFront_0 rfl (hl.at 2 rfl) ?_
  refine lv_if_lt (tgt := 9) X.1 X.2.1 d_E_putInFront_1 (by decide) (fun g => ?_) (fun g => ?_)
  · rw [if_pos g] at hρ
    have hp := hp.1 g
    exact r_vret X hr hk hw ⟨rfl, hρ.symm⟩ d_E_putInFront_9
  · rw [if_neg g] at hρ
    have hp := hp.2 g
    refine lv_iload_n X.1 X.2.1 d_E_putInFront_4 rfl (hl.at 2 rfl) ?_
    refine lv_iconst (v := (3 : Int32)) X.1 X.2.1 d_E_putInFront_5 (by decide) ?_
    refine lv_icmp_lt (tgt := 10) X.1 X.2.1 d_E_putInFront_6 (by decide) (fun g => ?_) (fun g => ?_)
    · rw [if_pos g] at hρ
      have hp := hp.1 g
      refine lv_iload_n X.1 X.2.1 d_E_putInFront_10 rfl (hl.at 2 rfl) ?_
      refine r_istore_n X hl d_E_putInFront_11 rfl (by decide) (fun ls hl => ?_)
      have hl : Lc ls 4 [some (.ref (ad (i0 + 2))), some (.int x1), some (.int x2), some (.int x2)] := hl
      exact w_E_putInFront_12 X K hr hk fz fz i0 n0 x1 x2 x2 h ρ hρ hp hl hw
    · rw [if_neg g] at hρ
      have hp := hp.2 g
      exact r_vret X hr hk hw ⟨rfl, hρ.symm⟩ d_E_putInFront_9
set_option maxRecDepth 100000 in
theorem c_E_putInFront (l : Launch) (D : va_G) (cI cZ : ClassId) (base : Nat) (ad : Nat → Nat) (fz : Nat) (i0 : Nat) (n0 : isN i0) (x1 : Int32) (x2 : Int32) (h : HH) (hp : P_E_putInFront fz i0 x1 x2 h) : Ct l D cI cZ base ad y_E_putInFront b_E_putInFront 4 none 0 0 [.ref (ad (i0 + 2)), .int x1, .int x2] h (pH (B_E_putInFront fz i0 x1 x2 h)) := by
  refine Ct.of (by decide) (Nat.le_of_ble_eq_true rfl) (cat_ok rfl) ?_
  intro p e s m args below meth c ls X K hr hk hl hw
  exact w_E_putInFront fz i0 n0 x1 x2 h _ rfl hp X K hr hk hl hw
set_option maxHeartbeats 4000000 in
set_option maxRecDepth 100000 in
theorem w_V_hasBlock (fz : Nat) (x0 : Int32) (x1 : Int32) (h : HH) (ρ : Int32) (hρ : B_V_hasBlock fz x0 x1 h = ρ) (hp : P_V_hasBlock fz x0 x1 h) (X : CallFix p m c b_V_hasBlock 2 s args TB R_V) (K : KK D cI cZ s) (hr : meth.sig.returnType = (some .boolean)) (hk : meth.locks = false) {ls : Array Slot} {H : Heap} {locs : List Loc} (hl : Lc ls 2 [some (.int x0), some (.int x1)]) (hw : Hw D cI cZ base ad s shape h H locs) : W p l e (rmD 0 0) s m args below meth c H locs 0 0 (MQ below (Qw D cI cZ base ad (pI h ρ)) args s 0 0 (fun q => base ≤ q)) (F0 m 0 ls []) := by
  unfold B_V_hasBlock at hρ
  unfold P_V_hasBlock at hp
  refine lv_iload_n X.1 X.2.1 d_V_hasBlock_0 rfl (hl.at 0 rfl) ?_
  refine lv_iload_n X.1 X.2.1 d_V_hasBlock_1 rfl (hl.at 1 rfl) ?_
  refine lv_iushr X.1 X.2.1 d_V_hasBlock_2 rfl ?_
  refine lv_iconst (v := (1 : Int32)) X.1 X.2.1 d_V_hasBlock_3 (by decide) ?_
  refine lv_iand X.1 X.2.1 d_V_hasBlock_4 ?_
  refine lv_if_eq (tgt := 12) X.1 X.2.1 d_V_hasBlock_5 (by decide) (fun g => ?_) (fun g => ?_)
  · rw [if_pos g] at hρ
    have hp := hp.1 g
    refine lv_iconst (v := (0 : Int32)) X.1 X.2.1 d_V_hasBlock_12 (by decide) ?_
    exact r_zret X hr hk hw (by decide) ⟨congrArg (fun z => some (Value.int z)) hρ, rfl⟩ d_V_hasBlock_13
  · rw [if_neg g] at hρ
    have hp := hp.2 g
    refine lv_iconst (v := (1 : Int32)) X.1 X.2.1 d_V_hasBlock_8 (by decide) ?_
    refine lv_goto (tgt := 13) X.1 X.2.1 d_V_hasBlock_9 (by decide) ?_
    exact r_zret X hr hk hw (by decide) ⟨congrArg (fun z => some (Value.int z)) hρ, rfl⟩ d_V_hasBlock_13
set_option maxRecDepth 100000 in
theorem c_V_hasBlock (l : Launch) (D : va_G) (cI cZ : ClassId) (base : Nat) (ad : Nat → Nat) (fz : Nat) (x0 : Int32) (x1 : Int32) (h : HH) (hp : P_V_hasBlock fz x0 x1 h) : Ct l D cI cZ base ad y_V_hasBlock b_V_hasBlock 2 (some .boolean) 0 0 [.int x0, .int x1] h (pI h (B_V_hasBlock fz x0 x1 h)) := by
  refine Ct.of (by decide) (Nat.le_of_ble_eq_true rfl) (cat_ok rfl) ?_
  intro p e s m args below meth c ls X K hr hk hl hw
  exact w_V_hasBlock fz x0 x1 h _ rfl hp X K hr hk hl hw
set_option maxHeartbeats 4000000 in
set_option maxRecDepth 100000 in
theorem w_N_epochOfNextWrite_26 (fz : Nat) (i0 : Nat) (n0 : isN i0) (h : HH) (ρ : Int32 × HH) (hρ : B_N_epochOfNextWrite_26 fz i0 h = ρ) (hp : P_N_epochOfNextWrite_26 fz i0 h) (X : CallFix p m c b_N_epochOfNextWrite 2 s args TB R_N) (K : KK D cI cZ s) (hr : meth.sig.returnType = (some .int)) (hk : meth.locks = false) {ls : Array Slot} {H : Heap} {locs : List Loc} (hl : Lc ls 2 [some (.ref (ad i0)), none]) (hw : Hw D cI cZ base ad s shape h H locs) : W p l e (rmD 0 0) s m args below meth c H locs 0 0 (MQ below (Qw D cI cZ base ad (pIH ρ)) args s 0 0 (fun q => base ≤ q)) (F0 m 26 ls []) := by
  unfold B_N_epochOfNextWrite_26 at hρ
  unfold P_N_epochOfNextWrite_26 at hp
  refine lv_aload_n X.1 X.2.1 d_N_epochOfNextWrite_26 rfl (hl.at 0 rfl) ?_
  refine r_geti X K hw fg_N_50 (shp_N n0) rfl d_N_epochOfNextWrite_27 ?_
  exact r_iret X hr hk hw ⟨congrArg (fun z => some (Value.int z.1)) hρ, (congrArg Prod.snd hρ).symm⟩ d_N_epochOfNextWrite_30
set_option maxHeartbeats 4000000 in
set_option maxRecDepth 100000 in
theorem w_N_epochOfNextWrite_21 (fz : Nat) (i0 : Nat) (n0 : isN i0) (h : HH) (ρ : Int32 × HH) (hρ : B_N_epochOfNextWrite_21 fz i0 h = ρ) (hp : P_N_epochOfNextWrite_21 fz i0 h) (X : CallFix p m c b_N_epochOfNextWrite 2 s args TB R_N) (K : KK D cI cZ s) (hr : meth.sig.returnType = (some .int)) (hk : meth.locks = false) {ls : Array Slot} {H : Heap} {locs : List Loc} (hl : Lc ls 2 [some (.ref (ad i0)), none]) (hw : Hw D cI cZ base ad s shape h H locs) : W p l e (rmD 0 0) s m args below meth c H locs 0 0 (MQ below (Qw D cI cZ base ad (pIH ρ)) args s 0 0 (fun q => base ≤ q)) (F0 m 21 ls []) := by
  unfold B_N_epochOfNextWrite_21 at hρ
  unfold P_N_epochOfNextWrite_21 at hp
  refine lv_aload_n X.1 X.2.1 d_N_epochOfNextWrite_21 rfl (hl.at 0 rfl) ?_
  refine lv_iconst (v := (0 : Int32)) X.1 X.2.1 d_N_epochOfNextWrite_22 (by decide) ?_
  refine r_put X K hw fp_N_47 (shp_N n0) rfl (by decide) (by decide) d_N_epochOfNextWrite_23 (fun H locs hw => ?_)
  exact w_N_epochOfNextWrite_26 fz i0 n0 (u2 h i0 16 (0 : Int32)) ρ hρ hp X K hr hk hl hw
set_option maxHeartbeats 4000000 in
set_option maxRecDepth 100000 in
theorem w_N_epochOfNextWrite_11 (fz : Nat) (i0 : Nat) (n0 : isN i0) (h : HH) (ρ : Int32 × HH) (hρ : B_N_epochOfNextWrite_11 fz i0 h = ρ) (hp : P_N_epochOfNextWrite_11 fz i0 h) (X : CallFix p m c b_N_epochOfNextWrite 2 s args TB R_N) (K : KK D cI cZ s) (hr : meth.sig.returnType = (some .int)) (hk : meth.locks = false) {ls : Array Slot} {H : Heap} {locs : List Loc} (hl : Lc ls 2 [some (.ref (ad i0)), none]) (hw : Hw D cI cZ base ad s shape h H locs) : W p l e (rmD 0 0) s m args below meth c H locs 0 0 (MQ below (Qw D cI cZ base ad (pIH ρ)) args s 0 0 (fun q => base ≤ q)) (F0 m 11 ls []) := by
  unfold B_N_epochOfNextWrite_11 at hρ
  unfold P_N_epochOfNextWrite_11 at hp
  refine lv_aload_n X.1 X.2.1 d_N_epochOfNextWrite_11 rfl (hl.at 0 rfl) ?_
  refine lv_dup X.1 X.2.1 d_N_epochOfNextWrite_12 rfl ?_
  refine r_geti X K hw fg_N_50 (shp_N n0) rfl d_N_epochOfNextWrite_13 ?_
  refine lv_iconst (v := (1 : Int32)) X.1 X.2.1 d_N_epochOfNextWrite_16 (by decide) ?_
  refine lv_iadd X.1 X.2.1 d_N_epochOfNextWrite_17 ?_
  refine r_put X K hw fp_N_50 (shp_N n0) rfl rfl rfl d_N_epochOfNextWrite_18 (fun H locs hw => ?_)
  exact w_N_epochOfNextWrite_21 fz i0 n0 (u2 h i0 15 ((h i0 15) + (1 : Int32))) ρ hρ hp X K hr hk hl hw
set_option maxHeartbeats 4000000 in
set_option maxRecDepth 100000 in
theorem w_N_epochOfNextWrite (fz : Nat) (i0 : Nat) (n0 : isN i0) (x1 : Int32) (h : HH) (ρ : Int32 × HH) (hρ : B_N_epochOfNextWrite fz i0 x1 h = ρ) (hp : P_N_epochOfNextWrite fz i0 x1 h) (X : CallFix p m c b_N_epochOfNextWrite 2 s args TB R_N) (K : KK D cI cZ s) (hr : meth.sig.returnType = (some .int)) (hk : meth.locks = false) {ls : Array Slot} {H : Heap} {locs : List Loc} (hl : Lc ls 2 [some (.ref (ad i0)), some (.int x1)]) (hw : Hw D cI cZ base ad s shape h H locs) : W p l e (rmD 0 0) s m args below meth c H locs 0 0 (MQ below (Qw D cI cZ base ad (pIH ρ)) args s 0 0 (fun q => base ≤ q)) (F0 m 0 ls []) := by
  unfold B_N_epochOfNextWrite at hρ
  unfold P_N_epochOfNextWrite at hp
  refine lv_aload_n X.1 X.2.1 d_N_epochOfNextWrite_0 rfl (hl.at 0 rfl) ?_
  refine r_geti X K hw fg_N_47 (shp_N n0) rfl d_N_epochOfNextWrite_1 ?_
  refine lv_if_ne (tgt := 11) X.1 X.2.1 d_N_epochOfNextWrite_4 (by decide) (fun g => ?_) (fun g => ?_)
  · rw [if_neg g] at hρ
    have hp := hp.2 g
    have hl : Lc ls 2 [some (.ref (ad i0)), none] := hl.mask [true, false]
    exact w_N_epochOfNextWrite_11 fz i0 n0 h ρ hρ hp X K hr hk hl hw
  · rw [if_pos g] at hρ
    have hp := hp.1 g
    refine lv_iload_n X.1 X.2.1 d_N_epochOfNextWrite_7 rfl (hl.at 1 rfl) ?_
    refine lv_if_eq (tgt := 21) X.1 X.2.1 d_N_epochOfNextWrite_8 (by decide) (fun g => ?_) (fun g => ?_)
    · rw [if_pos g] at hρ
      have hp := hp.1 g
      have hl : Lc ls 2 [some (.ref (ad i0)), none] := hl.mask [true, false]
      exact w_N_epochOfNextWrite_21 fz i0 n0 h ρ hρ hp X K hr hk hl hw
    · rw [if_neg g] at hρ
      have hp := hp.2 g
      have hl : Lc ls 2 [some (.ref (ad i0)), none] := hl.mask [true, false]
      exact w_N_epochOfNextWrite_11 fz i0 n0 h ρ hρ hp X K hr hk hl hw
set_option maxRecDepth 100000 in
theorem c_N_epochOfNextWrite (l : Launch) (D : va_G) (cI cZ : ClassId) (base : Nat) (ad : Nat → Nat) (fz : Nat) (i0 : Nat) (n0 : isN i0) (x1 : Int32) (h : HH) (hp : P_N_epochOfNextWrite fz i0 x1 h) : Ct l D cI cZ base ad y_N_epochOfNextWrite b_N_epochOfNextWrite 2 (some .int) 0 0 [.ref (ad i0), .int x1] h (pIH (B_N_epochOfNextWrite fz i0 x1 h)) := by
  refine Ct.of (by decide) (Nat.le_of_ble_eq_true rfl) (cat_ok rfl) ?_
  intro p e s m args below meth c ls X K hr hk hl hw
  exact w_N_epochOfNextWrite fz i0 n0 x1 h _ rfl hp X K hr hk hl hw
set_option maxHeartbeats 4000000 in
set_option maxRecDepth 100000 in
theorem w_T_accept_70 (fz : Nat)  (h : HH) (ρ : Int32 × HH) (hρ : B_T_accept_70 fz  h = ρ) (hp : P_T_accept_70 fz  h) (X : CallFix p m c b_T_accept 5 s args TB R_T) (K : KK D cI cZ s) (hr : meth.sig.returnType = (some .int)) (hk : meth.locks = false) {ls : Array Slot} {H : Heap} {locs : List Loc} (hl : Lc ls 5 [some (.ref (ad 21)), none, none, none, none]) (hw : Hw D cI cZ base ad s shape h H locs) : W p l e (rmD 1 20) s m args below meth c H locs 0 0 (MQ below (Qw D cI cZ base ad (pIH ρ)) args s 0 0 (fun q => base ≤ q)) (F0 m 70 ls []) := by
  unfold B_T_accept_70 at hρ
  unfold P_T_accept_70 at hp
  refine lv_aload_n X.1 X.2.1 d_T_accept_70 rfl (hl.at 0 rfl) ?_
  refine r_geti X K hw fg_T_27 rfl rfl d_T_accept_71 ?_
  exact r_iret X hr hk hw ⟨congrArg (fun z => some (Value.int z.1)) hρ, (congrArg Prod.snd hρ).symm⟩ d_T_accept_74
set_option maxHeartbeats 4000000 in
set_option maxRecDepth 100000 in
theorem w_T_accept_60 (fz : Nat)  (h : HH) (ρ : Int32 × HH) (hρ : B_T_accept_60 fz  h = ρ) (hp : P_T_accept_60 fz  h) (X : CallFix p m c b_T_accept 5 s args TB R_T) (K : KK D cI cZ s) (hr : meth.sig.returnType = (some .int)) (hk : meth.locks = false) {ls : Array Slot} {H : Heap} {locs : List Loc} (hl : Lc ls 5 [some (.ref (ad 21)), none, none, none, none]) (hw : Hw D cI cZ base ad s shape h H locs) : W p l e (rmD 1 20) s m args below meth c H locs 0 0 (MQ below (Qw D cI cZ base ad (pIH ρ)) args s 0 0 (fun q => base ≤ q)) (F0 m 60 ls []) := by
  unfold B_T_accept_60 at hρ
  unfold P_T_accept_60 at hp
  refine lv_aload_n X.1 X.2.1 d_T_accept_60 rfl (hl.at 0 rfl) ?_
  refine r_getr (j := 26) X K hw fg_T_24 rfl rfl d_T_accept_61 ?_
  refine lv_aload_n X.1 X.2.1 d_T_accept_64 rfl (hl.at 0 rfl) ?_
  refine r_geti X K hw fg_T_27 rfl rfl d_T_accept_65 ?_
  refine lv_iconst (v := (1 : Int32)) X.1 X.2.1 d_T_accept_68 (by decide) ?_
  refine r_ast X K hw rfl hp.1 d_T_accept_69 (fun H locs hw => ?_)
  have hp := hp.2
  exact w_T_accept_70 fz  (u2 h 26 (ix (h 21 5)) (1 : Int32)) ρ hρ hp X K hr hk hl hw
set_option maxHeartbeats 4000000 in
set_option maxRecDepth 100000 in
theorem w_T_accept_49 (fz : Nat) (x4 : Int32) (h : HH) (ρ : Int32 × HH) (hρ : B_T_accept_49 fz x4 h = ρ) (hp : P_T_accept_49 fz x4 h) (X : CallFix p m c b_T_accept 5 s args TB R_T) (K : KK D cI cZ s) (hr : meth.sig.returnType = (some .int)) (hk : meth.locks = false) {ls : Array Slot} {H : Heap} {locs : List Loc} (hl : Lc ls 5 [some (.ref (ad 21)), none, none, none, some (.int x4)]) (hw : Hw D cI cZ base ad s shape h H locs) : W p l e (rmD 1 20) s m args below meth c H locs 0 0 (MQ below (Qw D cI cZ base ad (pIH ρ)) args s 0 0 (fun q => base ≤ q)) (F0 m 49 ls []) := by
  unfold B_T_accept_49 at hρ
  unfold P_T_accept_49 at hp
  refine lv_aload_n X.1 X.2.1 d_T_accept_49 rfl (hl.at 0 rfl) ?_
  refine r_getr (j := 25) X K hw fg_T_21 rfl rfl d_T_accept_50 ?_
  refine lv_aload_n X.1 X.2.1 d_T_accept_53 rfl (hl.at 0 rfl) ?_
  refine r_geti X K hw fg_T_27 rfl rfl d_T_accept_54 ?_
  refine lv_iload X.1 X.2.1 d_T_accept_57 (hl.at 4 rfl) ?_
  refine r_ast X K hw rfl hp.1 d_T_accept_59 (fun H locs hw => ?_)
  have hp := hp.2
  have hl : Lc ls 5 [some (.ref (ad 21)), none, none, none, none] := hl.mask [true, false, false, false, false]
  exact w_T_accept_60 fz  (u2 h 25 (ix (h 21 5)) x4) ρ hρ hp X K hr hk hl hw
set_option maxHeartbeats 4000000 in
set_option maxRecDepth 100000 in
theorem w_T_accept_39 (fz : Nat) (x3 : Int32) (x4 : Int32) (h : HH) (ρ : Int32 × HH) (hρ : B_T_accept_39 fz x3 x4 h = ρ) (hp : P_T_accept_39 fz x3 x4 h) (X : CallFix p m c b_T_accept 5 s args TB R_T) (K : KK D cI cZ s) (hr : meth.sig.returnType = (some .int)) (hk : meth.locks = false) {ls : Array Slot} {H : Heap} {locs : List Loc} (hl : Lc ls 5 [some (.ref (ad 21)), none, none, some (.int x3), some (.int x4)]) (hw : Hw D cI cZ base ad s shape h H locs) : W p l e (rmD 1 20) s m args below meth c H locs 0 0 (MQ below (Qw D cI cZ base ad (pIH ρ)) args s 0 0 (fun q => base ≤ q)) (F0 m 39 ls []) := by
  unfold B_T_accept_39 at hρ
  unfold P_T_accept_39 at hp
  refine lv_aload_n X.1 X.2.1 d_T_accept_39 rfl (hl.at 0 rfl) ?_
  refine r_getr (j := 24) X K hw fg_T_18 rfl rfl d_T_accept_40 ?_
  refine lv_aload_n X.1 X.2.1 d_T_accept_43 rfl (hl.at 0 rfl) ?_
  refine r_geti X K hw fg_T_27 rfl rfl d_T_accept_44 ?_
  refine lv_iload_n X.1 X.2.1 d_T_accept_47 rfl (hl.at 3 rfl) ?_
  refine r_ast X K hw rfl hp.1 d_T_accept_48 (fun H locs hw => ?_)
  have hp := hp.2
  have hl : Lc ls 5 [some (.ref (ad 21)), none, none, none, some (.int x4)] := hl.mask [true, false, false, false, true]
  exact w_T_accept_49 fz x4 (u2 h 24 (ix (h 21 5)) x3) ρ hρ hp X K hr hk hl hw
set_option maxHeartbeats 4000000 in
set_option maxRecDepth 100000 in
theorem w_T_accept_29 (fz : Nat) (x2 : Int32) (x3 : Int32) (x4 : Int32) (h : HH) (ρ : Int32 × HH) (hρ : B_T_accept_29 fz x2 x3 x4 h = ρ) (hp : P_T_accept_29 fz x2 x3 x4 h) (X : CallFix p m c b_T_accept 5 s args TB R_T) (K : KK D cI cZ s) (hr : meth.sig.returnType = (some .int)) (hk : meth.locks = false) {ls : Array Slot} {H : Heap} {locs : List Loc} (hl : Lc ls 5 [some (.ref (ad 21)), none, some (.int x2), some (.int x3), some (.int x4)]) (hw : Hw D cI cZ base ad s shape h H locs) : W p l e (rmD 1 20) s m args below meth c H locs 0 0 (MQ below (Qw D cI cZ base ad (pIH ρ)) args s 0 0 (fun q => base ≤ q)) (F0 m 29 ls []) := by
  unfold B_T_accept_29 at hρ
  unfold P_T_accept_29 at hp
  refine lv_aload_n X.1 X.2.1 d_T_accept_29 rfl (hl.at 0 rfl) ?_
  refine r_getr (j := 23) X K hw fg_T_15 rfl rfl d_T_accept_30 ?_
  refine lv_aload_n X.1 X.2.1 d_T_accept_33 rfl (hl.at 0 rfl) ?_
  refine r_geti X K hw fg_T_27 rfl rfl d_T_accept_34 ?_
  refine lv_iload_n X.1 X.2.1 d_T_accept_37 rfl (hl.at 2 rfl) ?_
  refine r_ast X K hw rfl hp.1 d_T_accept_38 (fun H locs hw => ?_)
  have hp := hp.2
  have hl : Lc ls 5 [some (.ref (ad 21)), none, none, some (.int x3), some (.int x4)] := hl.mask [true, false, false, true, true]
  exact w_T_accept_39 fz x3 x4 (u2 h 23 (ix (h 21 5)) x2) ρ hρ hp X K hr hk hl hw
set_option maxHeartbeats 4000000 in
set_option maxRecDepth 100000 in
theorem w_T_accept_19 (fz : Nat) (x1 : Int32) (x2 : Int32) (x3 : Int32) (x4 : Int32) (h : HH) (ρ : Int32 × HH) (hρ : B_T_accept_19 fz x1 x2 x3 x4 h = ρ) (hp : P_T_accept_19 fz x1 x2 x3 x4 h) (X : CallFix p m c b_T_accept 5 s args TB R_T) (K : KK D cI cZ s) (hr : meth.sig.returnType = (some .int)) (hk : meth.locks = false) {ls : Array Slot} {H : Heap} {locs : List Loc} (hl : Lc ls 5 [some (.ref (ad 21)), some (.int x1), some (.int x2), some (.int x3), some (.int x4)]) (hw : Hw D cI cZ base ad s shape h H locs) : W p l e (rmD 1 20) s m args below meth c H locs 0 0 (MQ below (Qw D cI cZ base ad (pIH ρ)) args s 0 0 (fun q => base ≤ q)) (F0 m 19 ls []) := by
  unfold B_T_accept_19 at hρ
  unfold P_T_accept_19 at hp
  refine lv_aload_n X.1 X.2.1 d_T_accept_19 rfl (hl.at 0 rfl) ?_
  refine r_getr (j := 22) X K hw fg_T_9 rfl rfl d_T_accept_20 ?_
  refine lv_aload_n X.1 X.2.1 d_T_accept_23 rfl (hl.at 0 rfl) ?_
  refine r_geti X K hw fg_T_27 rfl rfl d_T_accept_24 ?_
  refine lv_iload_n X.1 X.2.1 d_T_accept_27 rfl (hl.at 1 rfl) ?_
  refine r_ast X K hw rfl hp.1 d_T_accept_28 (fun H locs hw => ?_)
  have hp := hp.2
  have hl : Lc ls 5 [some (.ref (ad 21)), none, some (.int x2), some (.int x3), some (.int x4)] := hl.mask [true, false, true, true, true]
  exact w_T_accept_29 fz x2 x3 x4 (u2 h 22 (ix (h 21 5)) x1) ρ hρ hp X K hr hk hl hw
set_option maxHeartbeats 4000000 in
set_option maxRecDepth 100000 in
theorem w_T_accept (fz : Nat) (x1 : Int32) (x2 : Int32) (x3 : Int32) (x4 : Int32) (h : HH) (ρ : Int32 × HH) (hρ : B_T_accept fz x1 x2 x3 x4 h = ρ) (hp : P_T_accept fz x1 x2 x3 x4 h) (X : CallFix p m c b_T_accept 5 s args TB R_T) (K : KK D cI cZ s) (hr : meth.sig.returnType = (some .int)) (hk : meth.locks = false) {ls : Array Slot} {H : Heap} {locs : List Loc} (hl : Lc ls 5 [some (.ref (ad 21)), some (.int x1), some (.int x2), some (.int x3), some (.int x4)]) (hw : Hw D cI cZ base ad s shape h H locs) : W p l e (rmD 1 20) s m args below meth c H locs 0 0 (MQ below (Qw D cI cZ base ad (pIH ρ)) args s 0 0 (fun q => base ≤ q)) (F0 m 0 ls []) := by
  unfold B_T_accept at hρ
  unfold P_T_accept at hp
  refine lv_aload_n X.1 X.2.1 d_T_accept_0 rfl (hl.at 0 rfl) ?_
  refine r_callV (rest := []) X K hw hl.1 mf_T_31 rfl rfl rfl (c_T_isFull l D cI cZ base ad fz  h hp.1) (by decide) ⟨Nat.le_refl _, Nat.le_refl _⟩ rfl rfl (Nat.le_of_ble_eq_true rfl) d_T_accept_1 (fun v h' H locs q hw => ?_)
  obtain ⟨rfl, rfl⟩ := q
  have hp := hp.2
  refine lv_if_eq (tgt := 9) X.1 X.2.1 d_T_accept_4 (by decide) (fun g => ?_) (fun g => ?_)
  · rw [if_pos g] at hρ
    have hp := hp.1 g
    refine lv_aload_n X.1 X.2.1 d_T_accept_9 rfl (hl.at 0 rfl) ?_
    refine lv_dup X.1 X.2.1 d_T_accept_10 rfl ?_
    refine r_geti X K hw fg_T_27 rfl rfl d_T_accept_11 ?_
    refine lv_iconst (v := (1 : Int32)) X.1 X.2.1 d_T_accept_14 (by decide) ?_
    refine lv_iadd X.1 X.2.1 d_T_accept_15 ?_
    refine r_put X K hw fp_T_27 rfl rfl rfl rfl d_T_accept_16 (fun H locs hw => ?_)
    exact w_T_accept_19 fz x1 x2 x3 x4 (u2 h 21 5 ((h 21 5) + (1 : Int32))) ρ hρ hp X K hr hk hl hw
  · rw [if_neg g] at hρ
    have hp := hp.2 g
    refine lv_iconst (v := (0 : Int32)) X.1 X.2.1 d_T_accept_7 (by decide) ?_
    exact r_iret X hr hk hw ⟨congrArg (fun z => some (Value.int z.1)) hρ, (congrArg Prod.snd hρ).symm⟩ d_T_accept_8
set_option maxRecDepth 100000 in
theorem c_T_accept (l : Launch) (D : va_G) (cI cZ : ClassId) (base : Nat) (ad : Nat → Nat) (fz : Nat) (x1 : Int32) (x2 : Int32) (x3 : Int32) (x4 : Int32) (h : HH) (hp : P_T_accept fz x1 x2 x3 x4 h) : Ct l D cI cZ base ad y_T_accept b_T_accept 5 (some .int) 1 20 [.ref (ad 21), .int x1, .int x2, .int x3, .int x4] h (pIH (B_T_accept fz x1 x2 x3 x4 h)) := by
  refine Ct.of (by decide) (Nat.le_of_ble_eq_true rfl) (cat_ok rfl) ?_
  intro p e s m args below meth c ls X K hr hk hl hw
  exact w_T_accept fz x1 x2 x3 x4 h _ rfl hp X K hr hk hl hw
set_option maxHeartbeats 4000000 in
set_option maxRecDepth 100000 in
theorem w_O_send_48 (fz : Nat) (i0 : Nat) (n0 : isN i0) (h : HH) (ρ : HH) (hρ : B_O_send_48 fz i0 h = ρ) (hp : P_O_send_48 fz i0 h) (X : CallFix p m c b_O_send 5 s args TB R_O) (K : KK D cI cZ s) (hr : meth.sig.returnType = none) (hk : meth.locks = false) {ls : Array Slot} {H : Heap} {locs : List Loc} (hl : Lc ls 5 [some (.ref (ad (i0 + 4))), none, none, none, none]) (hw : Hw D cI cZ base ad s shape h H locs) : W p l e (rmD 0 0) s m args below meth c H locs 0 0 (MQ below (Qw D cI cZ base ad (pH ρ)) args s 0 0 (fun q => base ≤ q)) (F0 m 48 ls []) := by
  unfold B_O_send_48 at hρ
  unfold P_O_send_48 at hp
  refine lv_aload_n X.1 X.2.1 d_O_send_48 rfl (hl.at 0 rfl) ?_
  refine lv_dup X.1 X.2.1 d_O_send_49 rfl ?_
  refine r_geti X K hw fg_O_21 (shp_O n0) rfl d_O_send_50 ?_
  refine lv_iconst (v := (1 : Int32)) X.1 X.2.1 d_O_send_53 (by decide) ?_
  refine lv_iadd X.1 X.2.1 d_O_send_54 ?_
  refine r_put X K hw fp_O_21 (shp_O n0) rfl rfl rfl d_O_send_55 (fun H locs hw => ?_)
  exact r_vret X hr hk hw ⟨rfl, hρ.symm⟩ d_O_send_58
set_option maxHeartbeats 4000000 in
set_option maxRecDepth 100000 in
theorem w_O_send (fz : Nat) (i0 : Nat) (n0 : isN i0) (x1 : Int32) (x2 : Int32) (x3 : Int32) (h : HH) (ρ : HH) (hρ : B_O_send fz i0 x1 x2 x3 h = ρ) (hp : P_O_send fz i0 x1 x2 x3 h) (X : CallFix p m c b_O_send 5 s args TB R_O) (K : KK D cI cZ s) (hr : meth.sig.returnType = none) (hk : meth.locks = false) {ls : Array Slot} {H : Heap} {locs : List Loc} (hl : Lc ls 5 [some (.ref (ad (i0 + 4))), some (.int x1), some (.int x2), some (.int x3), none]) (hw : Hw D cI cZ base ad s shape h H locs) : W p l e (rmD 0 0) s m args below meth c H locs 0 0 (MQ below (Qw D cI cZ base ad (pH ρ)) args s 0 0 (fun q => base ≤ q)) (F0 m 0 ls []) := by
  unfold B_O_send at hρ
  unfold P_O_send at hp
  refine lv_aload_n X.1 X.2.1 d_O_send_0 rfl (hl.at 0 rfl) ?_
  refine r_geti X K hw fg_O_21 (shp_O n0) rfl d_O_send_1 ?_
  refine lv_bipush (v := (25 : Int32)) X.1 X.2.1 d_O_send_4 (by decide) ?_
  refine lv_icmp_lt (tgt := 10) X.1 X.2.1 d_O_send_6 (by decide) (fun g => ?_) (fun g => ?_)
  · rw [if_pos g] at hρ
    have hp := hp.1 g
    refine lv_aload_n X.1 X.2.1 d_O_send_10 rfl (hl.at 0 rfl) ?_
    refine r_geti X K hw fg_O_25 (shp_O n0) rfl d_O_send_11 ?_
    refine lv_aload_n X.1 X.2.1 d_O_send_14 rfl (hl.at 0 rfl) ?_
    refine r_geti X K hw fg_O_21 (shp_O n0) rfl d_O_send_15 ?_
    refine lv_iadd X.1 X.2.1 d_O_send_18 ?_
    refine lv_bipush (v := (25 : Int32)) X.1 X.2.1 d_O_send_19 (by decide) ?_
    refine lv_irem X.1 X.2.1 d_O_send_21 (by decide) ?_
    refine r_istore X hl d_O_send_22 (by decide) (fun ls hl => ?_)
    have hl : Lc ls 5 [some (.ref (ad (i0 + 4))), some (.int x1), some (.int x2), some (.int x3), some (.int (((h (i0 + 4) 3) + (h (i0 + 4) 4)) - ((h (i0 + 4) 3) + (h (i0 + 4) 4)) / (25 : Int32) * (25 : Int32)))] := hl
    refine lv_aload_n X.1 X.2.1 d_O_send_24 rfl (hl.at 0 rfl) ?_
    refine r_getr (j := (i0 + 5)) X K hw fg_O_9 (shp_O n0) rfl d_O_send_25 ?_
    refine lv_iload X.1 X.2.1 d_O_send_28 (hl.at 4 rfl) ?_
    refine lv_iload_n X.1 X.2.1 d_O_send_30 rfl (hl.at 1 rfl) ?_
    refine r_ast X K hw (sha_5 n0) hp.1 d_O_send_31 (fun H locs hw => ?_)
    have hp := hp.2
    refine lv_aload_n X.1 X.2.1 d_O_send_32 rfl (hl.at 0 rfl) ?_
    refine r_getr (j := (i0 + 6)) X K hw fg_O_15 (shp_O n0) rfl d_O_send_33 ?_
    refine lv_iload X.1 X.2.1 d_O_send_36 (hl.at 4 rfl) ?_
    refine lv_iload_n X.1 X.2.1 d_O_send_38 rfl (hl.at 2 rfl) ?_
    refine r_ast X K hw (sha_6 n0) hp.1 d_O_send_39 (fun H locs hw => ?_)
    have hp := hp.2
    refine lv_aload_n X.1 X.2.1 d_O_send_40 rfl (hl.at 0 rfl) ?_
    refine r_getr (j := (i0 + 7)) X K hw fg_O_18 (shp_O n0) rfl d_O_send_41 ?_
    refine lv_iload X.1 X.2.1 d_O_send_44 (hl.at 4 rfl) ?_
    refine lv_iload_n X.1 X.2.1 d_O_send_46 rfl (hl.at 3 rfl) ?_
    refine r_ast X K hw (sha_7 n0) hp.1 d_O_send_47 (fun H locs hw => ?_)
    have hp := hp.2
    have hl : Lc ls 5 [some (.ref (ad (i0 + 4))), none, none, none, none] := hl.mask [true, false, false, false, false]
    exact w_O_send_48 fz i0 n0 (u2 (u2 (u2 h (i0 + 5) (ix (((h (i0 + 4) 3) + (h (i0 + 4) 4)) - ((h (i0 + 4) 3) + (h (i0 + 4) 4)) / (25 : Int32) * (25 : Int32))) x1) (i0 + 6) (ix (((h (i0 + 4) 3) + (h (i0 + 4) 4)) - ((h (i0 + 4) 3) + (h (i0 + 4) 4)) / (25 : Int32) * (25 : Int32))) x2) (i0 + 7) (ix (((h (i0 + 4) 3) + (h (i0 + 4) 4)) - ((h (i0 + 4) 3) + (h (i0 + 4) 4)) / (25 : Int32) * (25 : Int32))) x3) ρ hρ hp X K hr hk hl hw
  · rw [if_neg g] at hρ
    have hp := hp.2 g
    exact r_vret X hr hk hw ⟨rfl, hρ.symm⟩ d_O_send_9
set_option maxRecDepth 100000 in
theorem c_O_send (l : Launch) (D : va_G) (cI cZ : ClassId) (base : Nat) (ad : Nat → Nat) (fz : Nat) (i0 : Nat) (n0 : isN i0) (x1 : Int32) (x2 : Int32) (x3 : Int32) (h : HH) (hp : P_O_send fz i0 x1 x2 x3 h) : Ct l D cI cZ base ad y_O_send b_O_send 5 none 0 0 [.ref (ad (i0 + 4)), .int x1, .int x2, .int x3] h (pH (B_O_send fz i0 x1 x2 x3 h)) := by
  refine Ct.of (by decide) (Nat.le_of_ble_eq_true rfl) (cat_ok rfl) ?_
  intro p e s m args below meth c ls X K hr hk hl hw
  exact w_O_send fz i0 n0 x1 x2 x3 h _ rfl hp X K hr hk hl hw
end WALK
