section WALK
variable {p : Program} {l : Launch} {e : Env} {s : State} {m : MethodId} {args : Array Value} {below : List Frame} {meth : Method} {c : Code} {D : va_G} {cI cZ : ClassId} {base : Nat} {ad : Nat → Nat} {R : Room} {Q : State → Prop} {cells slots : Nat}
set_option maxHeartbeats 4000000 in
set_option maxRecDepth 100000 in
theorem w_M_cut (fz : Nat)  (h : HH) (ρ : Int32 × HH) (hρ : B_M_cut fz  h = ρ) (hp : P_M_cut fz  h) (X : CallFix p m c b_M_cut 1 s args TB R_M) (K : KK D cI cZ s) (hr : meth.sig.returnType = (some .boolean)) (hk : meth.locks = false) {ls : Array Slot} {H : Heap} {locs : List Loc} (hl : Lc ls 1 [some (.ref (ad 27))]) (hw : Hw D cI cZ base ad s shape h H locs) : W p l e (rmD 2 43) s m args below meth c H locs 0 0 (MQ below (Qw D cI cZ base ad (pIH ρ)) args s 0 0 (fun q => base ≤ q)) (F0 m 0 ls []) := by
  unfold B_M_cut at hρ
  unfold P_M_cut at hp
  refine lv_aload_n X.1 X.2.1 d_M_cut_0 rfl (hl.at 0 rfl) ?_
  refine r_geti X K hw fg_M_109 rfl rfl d_M_cut_1 ?_
  refine lv_if_ne (tgt := 9) X.1 X.2.1 d_M_cut_4 (by decide) (fun g => ?_) (fun g => ?_)
  · rw [if_neg g] at hρ
    have hp := hp.2 g
    refine lv_aload_n X.1 X.2.1 d_M_cut_9 rfl (hl.at 0 rfl) ?_
    refine r_callV (rest := []) X K hw hl.1 mf_M_147 rfl rfl rfl (c_M_breakLink l D cI cZ base ad fz  h hp.1) (by decide) ⟨Nat.le_refl _, Nat.le_refl _⟩ rfl rfl (Nat.le_of_ble_eq_true rfl) d_M_cut_10 (fun v h' H locs q hw => ?_)
    obtain ⟨rfl, rfl⟩ := q
    have hp := hp.2
    refine lv_iconst (v := (1 : Int32)) X.1 X.2.1 d_M_cut_13 (by decide) ?_
    exact r_zret X hr hk hw (by decide) ⟨congrArg (fun z => some (Value.int z.1)) hρ, (congrArg Prod.snd hρ).symm⟩ d_M_cut_14
  · rw [if_pos g] at hρ
    have hp := hp.1 g
    refine lv_iconst (v := (0 : Int32)) X.1 X.2.1 d_M_cut_7 (by decide) ?_
    exact r_zret X hr hk hw (by decide) ⟨congrArg (fun z => some (Value.int z.1)) hρ, (congrArg Prod.snd hρ).symm⟩ d_M_cut_8
set_option maxRecDepth 100000 in
theorem c_M_cut (l : Launch) (D : va_G) (cI cZ : ClassId) (base : Nat) (ad : Nat → Nat) (fz : Nat)  (h : HH) (hp : P_M_cut fz  h) : Ct l D cI cZ base ad y_M_cut b_M_cut 1 (some .boolean) 2 43 [.ref (ad 27)] h (pIH (B_M_cut fz  h)) := by
  refine Ct.of (by decide) (Nat.le_of_ble_eq_true rfl) (cat_ok rfl) ?_
  intro p e s m args below meth c ls X K hr hk hl hw
  exact w_M_cut fz  h _ rfl hp X K hr hk hl hw
set_option maxHeartbeats 4000000 in
set_option maxRecDepth 100000 in
theorem w_M_crash_75 (fz : Nat)  (h : HH) (ρ : Int32 × HH) (hρ : B_M_crash_75 fz  h = ρ) (hp : P_M_crash_75 fz  h) (X : CallFix p m c b_M_crash 2 s args TB R_M) (K : KK D cI cZ s) (hr : meth.sig.returnType = (some .boolean)) (hk : meth.locks = false) {ls : Array Slot} {H : Heap} {locs : List Loc} (hl : Lc ls 2 [some (.ref (ad 27)), none]) (hw : Hw D cI cZ base ad s shape h H locs) : W p l e (rmD 2 43) s m args below meth c H locs 0 0 (MQ below (Qw D cI cZ base ad (pIH ρ)) args s 0 0 (fun q => base ≤ q)) (F0 m 75 ls []) := by
  unfold B_M_crash_75 at hρ
  unfold P_M_crash_75 at hp
  refine lv_aload_n X.1 X.2.1 d_M_crash_75 rfl (hl.at 0 rfl) ?_
  refine r_geti X K hw fg_M_109 rfl rfl d_M_crash_76 ?_
  refine lv_if_eq (tgt := 86) X.1 X.2.1 d_M_crash_79 (by decide) (fun g => ?_) (fun g => ?_)
  · rw [if_pos g] at hρ
    have hp := hp.1 g
    refine lv_iconst (v := (1 : Int32)) X.1 X.2.1 d_M_crash_86 (by decide) ?_
    exact r_zret X hr hk hw (by decide) ⟨congrArg (fun z => some (Value.int z.1)) hρ, (congrArg Prod.snd hρ).symm⟩ d_M_crash_87
  · rw [if_neg g] at hρ
    have hp := hp.2 g
    refine lv_aload_n X.1 X.2.1 d_M_crash_82 rfl (hl.at 0 rfl) ?_
    refine r_callV (rest := []) X K hw hl.1 mf_M_147 rfl rfl rfl (c_M_breakLink l D cI cZ base ad fz  h hp.1) (by decide) ⟨Nat.le_refl _, Nat.le_refl _⟩ rfl rfl (Nat.le_of_ble_eq_true rfl) d_M_crash_83 (fun v h' H locs q hw => ?_)
    obtain ⟨rfl, rfl⟩ := q
    have hp := hp.2
    refine lv_iconst (v := (1 : Int32)) X.1 X.2.1 d_M_crash_86 (by decide) ?_
    exact r_zret X hr hk hw (by decide) ⟨congrArg (fun z => some (Value.int z.1)) hρ, (congrArg Prod.snd hρ).symm⟩ d_M_crash_87
set_option maxHeartbeats 4000000 in
set_option maxRecDepth 100000 in
theorem w_M_crash_62 (fz : Nat) (x1 : Int32) (y1 : Int32) (h : HH) (ρ : Int32 × HH) (hρ : B_M_crash_62 fz x1 y1 h = ρ) (hp : P_M_crash_62 fz x1 y1 h) (X : CallFix p m c b_M_crash 2 s args TB R_M) (K : KK D cI cZ s) (hr : meth.sig.returnType = (some .boolean)) (hk : meth.locks = false) {ls : Array Slot} {H : Heap} {locs : List Loc} (hl : Lc ls 2 [some (.ref (ad 27)), some (.int x1)]) (hw : Hw D cI cZ base ad s shape h H locs) : W p l e (rmD 2 43) s m args below meth c H locs 0 0 (MQ below (Qw D cI cZ base ad (pIH ρ)) args s 0 0 (fun q => base ≤ q)) (F0 m 62 ls [.int y1, .ref (ad 41)]) := by
  unfold B_M_crash_62 at hρ
  unfold P_M_crash_62 at hp
  refine lv_iconst (v := (1 : Int32)) X.1 X.2.1 d_M_crash_62 (by decide) ?_
  refine lv_goto (tgt := 67) X.1 X.2.1 d_M_crash_63 (by decide) ?_
  refine r_astz X K hw rfl hp.1 (by decide) d_M_crash_67 (fun H locs hw => ?_)
  have hp := hp.2
  refine lv_aload_n X.1 X.2.1 d_M_crash_68 rfl (hl.at 0 rfl) ?_
  refine r_getr (j := 43) X K hw fg_M_60 rfl rfl d_M_crash_69 ?_
  refine lv_iload_n X.1 X.2.1 d_M_crash_72 rfl (hl.at 1 rfl) ?_
  refine lv_iconst (v := (0 : Int32)) X.1 X.2.1 d_M_crash_73 (by decide) ?_
  refine r_astz X K hw rfl hp.1 (by decide) d_M_crash_74 (fun H locs hw => ?_)
  have hp := hp.2
  have hl : Lc ls 2 [some (.ref (ad 27)), none] := hl.mask [true, false]
  exact w_M_crash_75 fz  (u2 (u2 h 41 (ix y1) (1 : Int32)) 43 (ix x1) (0 : Int32)) ρ hρ hp X K hr hk hl hw
set_option maxHeartbeats 4000000 in
set_option maxRecDepth 100000 in
theorem w_M_crash_39 (fz : Nat) (x1 : Int32) (h : HH) (ρ : Int32 × HH) (hρ : B_M_crash_39 fz x1 h = ρ) (hp : P_M_crash_39 fz x1 h) (X : CallFix p m c b_M_crash 2 s args TB R_M) (K : KK D cI cZ s) (hr : meth.sig.returnType = (some .boolean)) (hk : meth.locks = false) {ls : Array Slot} {H : Heap} {locs : List Loc} (hl : Lc ls 2 [some (.ref (ad 27)), some (.int x1)]) (hw : Hw D cI cZ base ad s shape h H locs) : W p l e (rmD 2 43) s m args below meth c H locs 0 0 (MQ below (Qw D cI cZ base ad (pIH ρ)) args s 0 0 (fun q => base ≤ q)) (F0 m 39 ls []) := by
  unfold B_M_crash_39 at hρ
  unfold P_M_crash_39 at hp
  refine lv_aload_n X.1 X.2.1 d_M_crash_39 rfl (hl.at 0 rfl) ?_
  refine r_getr (j := 41) X K hw fg_M_54 rfl rfl d_M_crash_40 ?_
  refine lv_iload_n X.1 X.2.1 d_M_crash_43 rfl (hl.at 1 rfl) ?_
  refine lv_aload_n X.1 X.2.1 d_M_crash_44 rfl (hl.at 0 rfl) ?_
  refine r_getr (j := 41) X K hw fg_M_54 rfl rfl d_M_crash_45 ?_
  refine lv_iload_n X.1 X.2.1 d_M_crash_48 rfl (hl.at 1 rfl) ?_
  refine r_aldz X K hw rfl hp.1 d_M_crash_49 ?_
  have hp := hp.2
  refine lv_if_ne (tgt := 62) X.1 X.2.1 d_M_crash_50 (by decide) (fun g => ?_) (fun g => ?_)
  · rw [if_neg g] at hρ
    have hp := hp.2 g
    exact w_M_crash_62 fz x1 x1 h ρ hρ hp X K hr hk hl hw
  · rw [if_pos g] at hρ
    have hp := hp.1 g
    refine lv_aload_n X.1 X.2.1 d_M_crash_53 rfl (hl.at 0 rfl) ?_
    refine r_getr (j := 43) X K hw fg_M_60 rfl rfl d_M_crash_54 ?_
    refine lv_iload_n X.1 X.2.1 d_M_crash_57 rfl (hl.at 1 rfl) ?_
    refine r_aldz X K hw rfl hp.1 d_M_crash_58 ?_
    have hp := hp.2
    refine lv_if_eq (tgt := 66) X.1 X.2.1 d_M_crash_59 (by decide) (fun g => ?_) (fun g => ?_)
    · rw [if_pos g] at hρ
      have hp := hp.1 g
      refine lv_iconst (v := (0 : Int32)) X.1 X.2.1 d_M_crash_66 (by decide) ?_
      refine r_astz X K hw rfl hp.1 (by decide) d_M_crash_67 (fun H locs hw => ?_)
      have hp := hp.2
      refine lv_aload_n X.1 X.2.1 d_M_crash_68 rfl (hl.at 0 rfl) ?_
      refine r_getr (j := 43) X K hw fg_M_60 rfl rfl d_M_crash_69 ?_
      refine lv_iload_n X.1 X.2.1 d_M_crash_72 rfl (hl.at 1 rfl) ?_
      refine lv_iconst (v := (0 : Int32)) X.1 X.2.1 d_M_crash_73 (by decide) ?_
      refine r_astz X K hw rfl hp.1 (by decide) d_M_crash_74 (fun H locs hw => ?_)
      have hp := hp.2
      have hl : Lc ls 2 [some (.ref (ad 27)), none] := hl.mask [true, false]
      exact w_M_crash_75 fz  (u2 (u2 h 41 (ix x1) (0 : Int32)) 43 (ix x1) (0 : Int32)) ρ hρ hp X K hr hk hl hw
    · rw [if_neg g] at hρ
      have hp := hp.2 g
      exact w_M_crash_62 fz x1 x1 h ρ hρ hp X K hr hk hl hw
set_option maxHeartbeats 4000000 in
set_option maxRecDepth 100000 in
theorem w_M_crash_32 (fz : Nat) (x1 : Int32) (h : HH) (ρ : Int32 × HH) (hρ : B_M_crash_32 fz x1 h = ρ) (hp : P_M_crash_32 fz x1 h) (X : CallFix p m c b_M_crash 2 s args TB R_M) (K : KK D cI cZ s) (hr : meth.sig.returnType = (some .boolean)) (hk : meth.locks = false) {ls : Array Slot} {H : Heap} {locs : List Loc} (hl : Lc ls 2 [some (.ref (ad 27)), some (.int x1)]) (hw : Hw D cI cZ base ad s shape h H locs) : W p l e (rmD 2 43) s m args below meth c H locs 0 0 (MQ below (Qw D cI cZ base ad (pIH ρ)) args s 0 0 (fun q => base ≤ q)) (F0 m 32 ls []) := by
  unfold B_M_crash_32 at hρ
  unfold P_M_crash_32 at hp
  refine lv_aload_n X.1 X.2.1 d_M_crash_32 rfl (hl.at 0 rfl) ?_
  refine lv_iload_n X.1 X.2.1 d_M_crash_33 rfl (hl.at 1 rfl) ?_
  refine lv_iconst (v := (3 : Int32)) X.1 X.2.1 d_M_crash_34 (by decide) ?_
  refine lv_iconst (v := (4 : Int32)) X.1 X.2.1 d_M_crash_35 (by decide) ?_
  refine r_callV (rest := []) X K hw hl.1 mf_M_101 rfl rfl rfl (c_M_turnInto l D cI cZ base ad fz x1 (3 : Int32) (4 : Int32) h hp.1) (by decide) ⟨Nat.le_refl _, Nat.le_refl _⟩ rfl rfl (Nat.le_of_ble_eq_true rfl) d_M_crash_36 (fun v h' H locs q hw => ?_)
  obtain ⟨rfl, rfl⟩ := q
  have hp := hp.2
  exact w_M_crash_39 fz x1 (B_M_turnInto fz x1 (3 : Int32) (4 : Int32) h) ρ hρ hp X K hr hk hl hw
set_option maxHeartbeats 4000000 in
set_option maxRecDepth 100000 in
theorem w_M_crash_25 (fz : Nat) (x1 : Int32) (h : HH) (ρ : Int32 × HH) (hρ : B_M_crash_25 fz x1 h = ρ) (hp : P_M_crash_25 fz x1 h) (X : CallFix p m c b_M_crash 2 s args TB R_M) (K : KK D cI cZ s) (hr : meth.sig.returnType = (some .boolean)) (hk : meth.locks = false) {ls : Array Slot} {H : Heap} {locs : List Loc} (hl : Lc ls 2 [some (.ref (ad 27)), some (.int x1)]) (hw : Hw D cI cZ base ad s shape h H locs) : W p l e (rmD 2 43) s m args below meth c H locs 0 0 (MQ below (Qw D cI cZ base ad (pIH ρ)) args s 0 0 (fun q => base ≤ q)) (F0 m 25 ls []) := by
  unfold B_M_crash_25 at hρ
  unfold P_M_crash_25 at hp
  refine lv_aload_n X.1 X.2.1 d_M_crash_25 rfl (hl.at 0 rfl) ?_
  refine lv_iload_n X.1 X.2.1 d_M_crash_26 rfl (hl.at 1 rfl) ?_
  refine lv_iconst (v := (1 : Int32)) X.1 X.2.1 d_M_crash_27 (by decide) ?_
  refine lv_iconst (v := (4 : Int32)) X.1 X.2.1 d_M_crash_28 (by decide) ?_
  refine r_callV (rest := []) X K hw hl.1 mf_M_101 rfl rfl rfl (c_M_turnInto l D cI cZ base ad fz x1 (1 : Int32) (4 : Int32) h hp.1) (by decide) ⟨Nat.le_refl _, Nat.le_refl _⟩ rfl rfl (Nat.le_of_ble_eq_true rfl) d_M_crash_29 (fun v h' H locs q hw => ?_)
  obtain ⟨rfl, rfl⟩ := q
  have hp := hp.2
  exact w_M_crash_32 fz x1 (B_M_turnInto fz x1 (1 : Int32) (4 : Int32) h) ρ hρ hp X K hr hk hl hw
set_option maxHeartbeats 4000000 in
set_option maxRecDepth 100000 in
theorem w_M_crash (fz : Nat) (x1 : Int32) (h : HH) (ρ : Int32 × HH) (hρ : B_M_crash fz x1 h = ρ) (hp : P_M_crash fz x1 h) (X : CallFix p m c b_M_crash 2 s args TB R_M) (K : KK D cI cZ s) (hr : meth.sig.returnType = (some .boolean)) (hk : meth.locks = false) {ls : Array Slot} {H : Heap} {locs : List Loc} (hl : Lc ls 2 [some (.ref (ad 27)), some (.int x1)]) (hw : Hw D cI cZ base ad s shape h H locs) : W p l e (rmD 2 43) s m args below meth c H locs 0 0 (MQ below (Qw D cI cZ base ad (pIH ρ)) args s 0 0 (fun q => base ≤ q)) (F0 m 0 ls []) := by
  unfold B_M_crash at hρ
  unfold P_M_crash at hp
  refine lv_iload_n X.1 X.2.1 d_M_crash_0 rfl (hl.at 1 rfl) ?_
  refine r_callS (rest := []) X K hw hl.1 mf_M_117 (c_M_isNode l D cI cZ base ad fz x1 h hp.1) (by decide) ⟨Nat.le_refl _, Nat.le_refl _⟩ rfl rfl (Nat.le_of_ble_eq_true rfl) d_M_crash_1 (fun v h' H locs q hw => ?_)
  obtain ⟨rfl, rfl⟩ := q
  have hp := hp.2
  refine lv_if_eq (tgt := 16) X.1 X.2.1 d_M_crash_4 (by decide) (fun g => ?_) (fun g => ?_)
  · rw [if_pos g] at hρ
    have hp := hp.1 g
    refine lv_iconst (v := (0 : Int32)) X.1 X.2.1 d_M_crash_16 (by decide) ?_
    exact r_zret X hr hk hw (by decide) ⟨congrArg (fun z => some (Value.int z.1)) hρ, (congrArg Prod.snd hρ).symm⟩ d_M_crash_17
  · rw [if_neg g] at hρ
    have hp := hp.2 g
    refine lv_aload_n X.1 X.2.1 d_M_crash_7 rfl (hl.at 0 rfl) ?_
    refine r_getr (j := 42) X K hw fg_M_57 rfl rfl d_M_crash_8 ?_
    refine lv_iload_n X.1 X.2.1 d_M_crash_11 rfl (hl.at 1 rfl) ?_
    refine r_aldz X K hw rfl hp.1 d_M_crash_12 ?_
    have hp := hp.2
    refine lv_if_ne (tgt := 18) X.1 X.2.1 d_M_crash_13 (by decide) (fun g => ?_) (fun g => ?_)
    · rw [if_neg g] at hρ
      have hp := hp.2 g
      refine lv_aload_n X.1 X.2.1 d_M_crash_18 rfl (hl.at 0 rfl) ?_
      refine r_getr (j := 42) X K hw fg_M_57 rfl rfl d_M_crash_19 ?_
      refine lv_iload_n X.1 X.2.1 d_M_crash_22 rfl (hl.at 1 rfl) ?_
      refine lv_iconst (v := (0 : Int32)) X.1 X.2.1 d_M_crash_23 (by decide) ?_
      refine r_astz X K hw rfl hp.1 (by decide) d_M_crash_24 (fun H locs hw => ?_)
      have hp := hp.2
      exact w_M_crash_25 fz x1 (u2 h 42 (ix x1) (0 : Int32)) ρ hρ hp X K hr hk hl hw
    · rw [if_pos g] at hρ
      have hp := hp.1 g
      refine lv_iconst (v := (0 : Int32)) X.1 X.2.1 d_M_crash_16 (by decide) ?_
      exact r_zret X hr hk hw (by decide) ⟨congrArg (fun z => some (Value.int z.1)) hρ, (congrArg Prod.snd hρ).symm⟩ d_M_crash_17
set_option maxRecDepth 100000 in
theorem c_M_crash (l : Launch) (D : va_G) (cI cZ : ClassId) (base : Nat) (ad : Nat → Nat) (fz : Nat) (x1 : Int32) (h : HH) (hp : P_M_crash fz x1 h) : Ct l D cI cZ base ad y_M_crash b_M_crash 2 (some .boolean) 2 43 [.ref (ad 27), .int x1] h (pIH (B_M_crash fz x1 h)) := by
  refine Ct.of (by decide) (Nat.le_of_ble_eq_true rfl) (cat_ok rfl) ?_
  intro p e s m args below meth c ls X K hr hk hl hw
  exact w_M_crash fz x1 h _ rfl hp X K hr hk hl hw
set_option maxHeartbeats 4000000 in
set_option maxRecDepth 100000 in
theorem w_M_restart_27 (X : CallFix p m c b_M_restart 3 s args TB R_M) (K : KK D cI cZ s) (hr : meth.sig.returnType = (some .boolean)) (hk : meth.locks = false) (fz : Nat) : ∀ (fu : Nat) (x1 : Int32) (x2 : Int32) (h : HH) (ρ : Int32 × HH) (_ : B_M_restart_27 fz fu x1 x2 h = ρ) (_ : P_M_restart_27 fz fu x1 x2 h) {ls : Array Slot} {H : Heap} {locs : List Loc} (_ : Lc ls 3 [some (.ref (ad 27)), some (.int x1), some (.int x2)]) (_ : Hw D cI cZ base ad s shape h H locs), W p l e (rmD 1 20) s m args below meth c H locs 0 0 (MQ below (Qw D cI cZ base ad (pIH ρ)) args s 0 0 (fun q => base ≤ q)) (F0 m 27 ls []) := by
  intro fu
  induction fu with
  | zero =>
    intro x1 x2 h ρ hρ hp ls H locs hl hw
    exact hp.elim
  | succ fu ih =>
    intro x1 x2 h ρ hρ hp ls H locs hl hw
    rw [B_M_restart_27] at hρ
    rw [P_M_restart_27] at hp
    refine lv_iload_n X.1 X.2.1 d_M_restart_27 rfl (hl.at 2 rfl) ?_
    refine lv_bipush (v := (32 : Int32)) X.1 X.2.1 d_M_restart_28 (by decide) ?_
    refine lv_icmp_ge (tgt := 76) X.1 X.2.1 d_M_restart_30 (by decide) (fun g => ?_) (fun g => ?_)
    · rw [if_pos g] at hρ
      have hp := hp.1 g
      refine lv_iconst (v := (1 : Int32)) X.1 X.2.1 d_M_restart_76 (by decide) ?_
      exact r_zret X hr hk hw (by decide) ⟨congrArg (fun z => some (Value.int z.1)) hρ, (congrArg Prod.snd hρ).symm⟩ d_M_restart_77
    · rw [if_neg g] at hρ
      have hp := hp.2 g
      refine lv_aload_n X.1 X.2.1 d_M_restart_33 rfl (hl.at 0 rfl) ?_
      refine r_getr (j := 41) X K hw fg_M_54 rfl rfl d_M_restart_34 ?_
      refine lv_iload_n X.1 X.2.1 d_M_restart_37 rfl (hl.at 1 rfl) ?_
      refine r_aldz X K hw rfl hp.1 d_M_restart_38 ?_
      have hp := hp.2
      refine lv_if_eq (tgt := 70) X.1 X.2.1 d_M_restart_39 (by decide) (fun g => ?_) (fun g => ?_)
      · rw [if_pos g] at hρ
        have hp := hp.1 g
        refine lv_iincL X.1 X.2.1 hl (v := (x2 + 1)) d_M_restart_70 rfl (congrArg (fun z => x2 + z) (by decide)) (by decide) (fun ls hl => ?_)
        have hl : Lc ls 3 [some (.ref (ad 27)), some (.int x1), some (.int (x2 + 1))] := hl
        refine lv_goto (tgt := 27) X.1 X.2.1 d_M_restart_73 (by decide) ?_
        exact ih x1 (x2 + 1) h ρ hρ hp hl hw
      · rw [if_neg g] at hρ
        have hp := hp.2 g
        refine lv_aload_n X.1 X.2.1 d_M_restart_42 rfl (hl.at 0 rfl) ?_
        refine r_getr (j := 36) X K hw fg_M_35 rfl rfl d_M_restart_43 ?_
        refine lv_bipush (v := (8 : Int32)) X.1 X.2.1 d_M_restart_46 (by decide) ?_
        refine lv_iload_n X.1 X.2.1 d_M_restart_48 rfl (hl.at 1 rfl) ?_
        refine lv_imul X.1 X.2.1 d_M_restart_49 ?_
        refine lv_iload_n X.1 X.2.1 d_M_restart_50 rfl (hl.at 2 rfl) ?_
        refine lv_iconst (v := (4 : Int32)) X.1 X.2.1 d_M_restart_51 (by decide) ?_
        refine lv_idiv X.1 X.2.1 d_M_restart_52 (by decide) ?_
        refine lv_iadd X.1 X.2.1 d_M_restart_53 ?_
        refine r_aldz X K hw rfl hp.1 d_M_restart_54 ?_
        have hp := hp.2
        refine lv_if_eq (tgt := 70) X.1 X.2.1 d_M_restart_55 (by decide) (fun g => ?_) (fun g => ?_)
        · rw [if_pos g] at hρ
          have hp := hp.1 g
          refine lv_iincL X.1 X.2.1 hl (v := (x2 + 1)) d_M_restart_70 rfl (congrArg (fun z => x2 + z) (by decide)) (by decide) (fun ls hl => ?_)
          have hl : Lc ls 3 [some (.ref (ad 27)), some (.int x1), some (.int (x2 + 1))] := hl
          refine lv_goto (tgt := 27) X.1 X.2.1 d_M_restart_73 (by decide) ?_
          exact ih x1 (x2 + 1) h ρ hρ hp hl hw
        · rw [if_neg g] at hρ
          have hp := hp.2 g
          refine lv_aload_n X.1 X.2.1 d_M_restart_58 rfl (hl.at 0 rfl) ?_
          refine r_getr (j := 35) X K hw fg_M_32 rfl rfl d_M_restart_59 ?_
          refine lv_bipush (v := (32 : Int32)) X.1 X.2.1 d_M_restart_62 (by decide) ?_
          refine lv_iload_n X.1 X.2.1 d_M_restart_64 rfl (hl.at 1 rfl) ?_
          refine lv_imul X.1 X.2.1 d_M_restart_65 ?_
          refine lv_iload_n X.1 X.2.1 d_M_restart_66 rfl (hl.at 2 rfl) ?_
          refine lv_iadd X.1 X.2.1 d_M_restart_67 ?_
          refine lv_iconst (v := (1 : Int32)) X.1 X.2.1 d_M_restart_68 (by decide) ?_
          refine r_astz X K hw rfl hp.1 (by decide) d_M_restart_69 (fun H locs hw => ?_)
          have hp := hp.2
          refine lv_iincL X.1 X.2.1 hl (v := (x2 + 1)) d_M_restart_70 rfl (congrArg (fun z => x2 + z) (by decide)) (by decide) (fun ls hl => ?_)
          have hl : Lc ls 3 [some (.ref (ad 27)), some (.int x1), some (.int (x2 + 1))] := hl
          refine lv_goto (tgt := 27) X.1 X.2.1 d_M_restart_73 (by decide) ?_
          exact ih x1 (x2 + 1) (u2 h 35 (ix (((32 : Int32) * x1) + x2)) (1 : Int32)) ρ hρ hp hl hw
set_option maxHeartbeats 4000000 in
set_option maxRecDepth 100000 in
theorem w_M_restart (fz : Nat) (x1 : Int32) (h : HH) (ρ : Int32 × HH) (hρ : B_M_restart fz x1 h = ρ) (hp : P_M_restart fz x1 h) (X : CallFix p m c b_M_restart 3 s args TB R_M) (K : KK D cI cZ s) (hr : meth.sig.returnType = (some .boolean)) (hk : meth.locks = false) {ls : Array Slot} {H : Heap} {locs : List Loc} (hl : Lc ls 3 [some (.ref (ad 27)), some (.int x1), none]) (hw : Hw D cI cZ base ad s shape h H locs) : W p l e (rmD 1 20) s m args below meth c H locs 0 0 (MQ below (Qw D cI cZ base ad (pIH ρ)) args s 0 0 (fun q => base ≤ q)) (F0 m 0 ls []) := by
  unfold B_M_restart at hρ
  unfold P_M_restart at hp
  refine lv_iload_n X.1 X.2.1 d_M_restart_0 rfl (hl.at 1 rfl) ?_
  refine r_callS (rest := []) X K hw hl.1 mf_M_117 (c_M_isNode l D cI cZ base ad fz x1 h hp.1) (by decide) ⟨Nat.le_refl _, Nat.le_refl _⟩ rfl rfl (Nat.le_of_ble_eq_true rfl) d_M_restart_1 (fun v h' H locs q hw => ?_)
  obtain ⟨rfl, rfl⟩ := q
  have hp := hp.2
  refine lv_if_eq (tgt := 16) X.1 X.2.1 d_M_restart_4 (by decide) (fun g => ?_) (fun g => ?_)
  · rw [if_pos g] at hρ
    have hp := hp.1 g
    refine lv_iconst (v := (0 : Int32)) X.1 X.2.1 d_M_restart_16 (by decide) ?_
    exact r_zret X hr hk hw (by decide) ⟨congrArg (fun z => some (Value.int z.1)) hρ, (congrArg Prod.snd hρ).symm⟩ d_M_restart_17
  · rw [if_neg g] at hρ
    have hp := hp.2 g
    refine lv_aload_n X.1 X.2.1 d_M_restart_7 rfl (hl.at 0 rfl) ?_
    refine r_getr (j := 42) X K hw fg_M_57 rfl rfl d_M_restart_8 ?_
    refine lv_iload_n X.1 X.2.1 d_M_restart_11 rfl (hl.at 1 rfl) ?_
    refine r_aldz X K hw rfl hp.1 d_M_restart_12 ?_
    have hp := hp.2
    refine lv_if_eq (tgt := 18) X.1 X.2.1 d_M_restart_13 (by decide) (fun g => ?_) (fun g => ?_)
    · rw [if_pos g] at hρ
      have hp := hp.1 g
      refine lv_aload_n X.1 X.2.1 d_M_restart_18 rfl (hl.at 0 rfl) ?_
      refine r_getr (j := 42) X K hw fg_M_57 rfl rfl d_M_restart_19 ?_
      refine lv_iload_n X.1 X.2.1 d_M_restart_22 rfl (hl.at 1 rfl) ?_
      refine lv_iconst (v := (1 : Int32)) X.1 X.2.1 d_M_restart_23 (by decide) ?_
      refine r_astz X K hw rfl hp.1 (by decide) d_M_restart_24 (fun H locs hw => ?_)
      have hp := hp.2
      refine lv_iconst (v := (0 : Int32)) X.1 X.2.1 d_M_restart_25 (by decide) ?_
      refine r_istore_n X hl d_M_restart_26 rfl (by decide) (fun ls hl => ?_)
      have hl : Lc ls 3 [some (.ref (ad 27)), some (.int x1), some (.int (0 : Int32))] := hl
      exact w_M_restart_27 X K hr hk fz fz x1 (0 : Int32) (u2 h 42 (ix x1) (1 : Int32)) ρ hρ hp hl hw
    · rw [if_neg g] at hρ
      have hp := hp.2 g
      refine lv_iconst (v := (0 : Int32)) X.1 X.2.1 d_M_restart_16 (by decide) ?_
      exact r_zret X hr hk hw (by decide) ⟨congrArg (fun z => some (Value.int z.1)) hρ, (congrArg Prod.snd hρ).symm⟩ d_M_restart_17
set_option maxRecDepth 100000 in
theorem c_M_restart (l : Launch) (D : va_G) (cI cZ : ClassId) (base : Nat) (ad : Nat → Nat) (fz : Nat) (x1 : Int32) (h : HH) (hp : P_M_restart fz x1 h) : Ct l D cI cZ base ad y_M_restart b_M_restart 3 (some .boolean) 1 20 [.ref (ad 27), .int x1] h (pIH (B_M_restart fz x1 h)) := by
  refine Ct.of (by decide) (Nat.le_of_ble_eq_true rfl) (cat_ok rfl) ?_
  intro p e s m args below meth c ls X K hr hk hl hw
  exact w_M_restart fz x1 h _ rfl hp X K hr hk hl hw
set_option maxHeartbeats 4000000 in
set_option maxRecDepth 100000 in
theorem w_M_promote_54 (fz : Nat) (x1 : Int32) (h : HH) (ρ : Int32 × HH) (hρ : B_M_promote_54 fz x1 h = ρ) (hp : P_M_promote_54 fz x1 h) (X : CallFix p m c b_M_promote 2 s args TB R_M) (K : KK D cI cZ s) (hr : meth.sig.returnType = (some .int)) (hk : meth.locks = false) {ls : Array Slot} {H : Heap} {locs : List Loc} (hl : Lc ls 2 [some (.ref (ad 27)), some (.int x1)]) (hw : Hw D cI cZ base ad s shape h H locs) : W p l e (rmD 1 20) s m args below meth c H locs 0 0 (MQ below (Qw D cI cZ base ad (pIH ρ)) args s 0 0 (fun q => base ≤ q)) (F0 m 54 ls []) := by
  unfold B_M_promote_54 at hρ
  unfold P_M_promote_54 at hp
  refine lv_aload_n X.1 X.2.1 d_M_promote_54 rfl (hl.at 0 rfl) ?_
  refine r_getr (j := 43) X K hw fg_M_60 rfl rfl d_M_promote_55 ?_
  refine lv_iload_n X.1 X.2.1 d_M_promote_58 rfl (hl.at 1 rfl) ?_
  refine lv_iconst (v := (1 : Int32)) X.1 X.2.1 d_M_promote_59 (by decide) ?_
  refine r_astz X K hw rfl hp.1 (by decide) d_M_promote_60 (fun H locs hw => ?_)
  have hp := hp.2
  refine lv_iconst (v := (0 : Int32)) X.1 X.2.1 d_M_promote_61 (by decide) ?_
  exact r_iret X hr hk hw ⟨congrArg (fun z => some (Value.int z.1)) hρ, (congrArg Prod.snd hρ).symm⟩ d_M_promote_62
set_option maxHeartbeats 4000000 in
set_option maxRecDepth 100000 in
theorem w_M_promote (fz : Nat) (x1 : Int32) (h : HH) (ρ : Int32 × HH) (hρ : B_M_promote fz x1 h = ρ) (hp : P_M_promote fz x1 h) (X : CallFix p m c b_M_promote 2 s args TB R_M) (K : KK D cI cZ s) (hr : meth.sig.returnType = (some .int)) (hk : meth.locks = false) {ls : Array Slot} {H : Heap} {locs : List Loc} (hl : Lc ls 2 [some (.ref (ad 27)), some (.int x1)]) (hw : Hw D cI cZ base ad s shape h H locs) : W p l e (rmD 1 20) s m args below meth c H locs 0 0 (MQ below (Qw D cI cZ base ad (pIH ρ)) args s 0 0 (fun q => base ≤ q)) (F0 m 0 ls []) := by
  unfold B_M_promote at hρ
  unfold P_M_promote at hp
  refine lv_iload_n X.1 X.2.1 d_M_promote_0 rfl (hl.at 1 rfl) ?_
  refine r_callS (rest := []) X K hw hl.1 mf_M_117 (c_M_isNode l D cI cZ base ad fz x1 h hp.1) (by decide) ⟨Nat.le_refl _, Nat.le_refl _⟩ rfl rfl (Nat.le_of_ble_eq_true rfl) d_M_promote_1 (fun v h' H locs q hw => ?_)
  obtain ⟨rfl, rfl⟩ := q
  have hp := hp.2
  refine lv_if_ne (tgt := 9) X.1 X.2.1 d_M_promote_4 (by decide) (fun g => ?_) (fun g => ?_)
  · rw [if_neg g] at hρ
    have hp := hp.2 g
    refine lv_aload_n X.1 X.2.1 d_M_promote_9 rfl (hl.at 0 rfl) ?_
    refine r_getr (j := 42) X K hw fg_M_57 rfl rfl d_M_promote_10 ?_
    refine lv_iload_n X.1 X.2.1 d_M_promote_13 rfl (hl.at 1 rfl) ?_
    refine r_aldz X K hw rfl hp.1 d_M_promote_14 ?_
    have hp := hp.2
    refine lv_if_ne (tgt := 21) X.1 X.2.1 d_M_promote_15 (by decide) (fun g => ?_) (fun g => ?_)
    · rw [if_neg g] at hρ
      have hp := hp.2 g
      refine lv_aload_n X.1 X.2.1 d_M_promote_21 rfl (hl.at 0 rfl) ?_
      refine r_getr (j := 40) X K hw fg_M_51 rfl rfl d_M_promote_22 ?_
      refine lv_iload_n X.1 X.2.1 d_M_promote_25 rfl (hl.at 1 rfl) ?_
      refine r_aldz X K hw rfl hp.1 d_M_promote_26 ?_
      have hp := hp.2
      refine lv_if_eq (tgt := 33) X.1 X.2.1 d_M_promote_27 (by decide) (fun g => ?_) (fun g => ?_)
      · rw [if_pos g] at hρ
        have hp := hp.1 g
        refine lv_aload_n X.1 X.2.1 d_M_promote_33 rfl (hl.at 0 rfl) ?_
        refine r_geti X K hw fg_M_109 rfl rfl d_M_promote_34 ?_
        refine lv_if_eq (tgt := 54) X.1 X.2.1 d_M_promote_37 (by decide) (fun g => ?_) (fun g => ?_)
        · rw [if_pos g] at hρ
          have hp := hp.1 g
          exact w_M_promote_54 fz x1 h ρ hρ hp X K hr hk hl hw
        · rw [if_neg g] at hρ
          have hp := hp.2 g
          refine lv_aload_n X.1 X.2.1 d_M_promote_40 rfl (hl.at 0 rfl) ?_
          refine r_getr (j := 43) X K hw fg_M_60 rfl rfl d_M_promote_41 ?_
          refine lv_iconst (v := (1 : Int32)) X.1 X.2.1 d_M_promote_44 (by decide) ?_
          refine lv_iload_n X.1 X.2.1 d_M_promote_45 rfl (hl.at 1 rfl) ?_
          refine lv_isub X.1 X.2.1 d_M_promote_46 ?_
          refine r_aldz X K hw rfl hp.1 d_M_promote_47 ?_
          have hp := hp.2
          refine lv_if_eq (tgt := 54) X.1 X.2.1 d_M_promote_48 (by decide) (fun g => ?_) (fun g => ?_)
          · rw [if_pos g] at hρ
            have hp := hp.1 g
            exact w_M_promote_54 fz x1 h ρ hρ hp X K hr hk hl hw
          · rw [if_neg g] at hρ
            have hp := hp.2 g
            refine lv_bipush (v := (-7 : Int32)) X.1 X.2.1 d_M_promote_51 (by decide) ?_
            exact r_iret X hr hk hw ⟨congrArg (fun z => some (Value.int z.1)) hρ, (congrArg Prod.snd hρ).symm⟩ d_M_promote_53
      · rw [if_neg g] at hρ
        have hp := hp.2 g
        refine lv_bipush (v := (-6 : Int32)) X.1 X.2.1 d_M_promote_30 (by decide) ?_
        exact r_iret X hr hk hw ⟨congrArg (fun z => some (Value.int z.1)) hρ, (congrArg Prod.snd hρ).symm⟩ d_M_promote_32
    · rw [if_pos g] at hρ
      have hp := hp.1 g
      refine lv_bipush (v := (-2 : Int32)) X.1 X.2.1 d_M_promote_18 (by decide) ?_
      exact r_iret X hr hk hw ⟨congrArg (fun z => some (Value.int z.1)) hρ, (congrArg Prod.snd hρ).symm⟩ d_M_promote_20
  · rw [if_pos g] at hρ
    have hp := hp.1 g
    refine lv_iconst (v := (-1 : Int32)) X.1 X.2.1 d_M_promote_7 (by decide) ?_
    exact r_iret X hr hk hw ⟨congrArg (fun z => some (Value.int z.1)) hρ, (congrArg Prod.snd hρ).symm⟩ d_M_promote_8
set_option maxRecDepth 100000 in
theorem c_M_promote (l : Launch) (D : va_G) (cI cZ : ClassId) (base : Nat) (ad : Nat → Nat) (fz : Nat) (x1 : Int32) (h : HH) (hp : P_M_promote fz x1 h) : Ct l D cI cZ base ad y_M_promote b_M_promote 2 (some .int) 1 20 [.ref (ad 27), .int x1] h (pIH (B_M_promote fz x1 h)) := by
  refine Ct.of (by decide) (Nat.le_of_ble_eq_true rfl) (cat_ok rfl) ?_
  intro p e s m args below meth c ls X K hr hk hl hw
  exact w_M_promote fz x1 h _ rfl hp X K hr hk hl hw
set_option maxHeartbeats 4000000 in
set_option maxRecDepth 100000 in
theorem w_M_demote (fz : Nat) (x1 : Int32) (h : HH) (ρ : Int32 × HH) (hρ : B_M_demote fz x1 h = ρ) (hp : P_M_demote fz x1 h) (X : CallFix p m c b_M_demote 2 s args TB R_M) (K : KK D cI cZ s) (hr : meth.sig.returnType = (some .int)) (hk : meth.locks = false) {ls : Array Slot} {H : Heap} {locs : List Loc} (hl : Lc ls 2 [some (.ref (ad 27)), some (.int x1)]) (hw : Hw D cI cZ base ad s shape h H locs) : W p l e (rmD 1 25) s m args below meth c H locs 0 0 (MQ below (Qw D cI cZ base ad (pIH ρ)) args s 0 0 (fun q => base ≤ q)) (F0 m 0 ls []) := by
  unfold B_M_demote at hρ
  unfold P_M_demote at hp
  refine lv_iload_n X.1 X.2.1 d_M_demote_0 rfl (hl.at 1 rfl) ?_
  refine r_callS (rest := []) X K hw hl.1 mf_M_117 (c_M_isNode l D cI cZ base ad fz x1 h hp.1) (by decide) ⟨Nat.le_refl _, Nat.le_refl _⟩ rfl rfl (Nat.le_of_ble_eq_true rfl) d_M_demote_1 (fun v h' H locs q hw => ?_)
  obtain ⟨rfl, rfl⟩ := q
  have hp := hp.2
  refine lv_if_ne (tgt := 9) X.1 X.2.1 d_M_demote_4 (by decide) (fun g => ?_) (fun g => ?_)
  · rw [if_neg g] at hρ
    have hp := hp.2 g
    refine lv_aload_n X.1 X.2.1 d_M_demote_9 rfl (hl.at 0 rfl) ?_
    refine r_getr (j := 42) X K hw fg_M_57 rfl rfl d_M_demote_10 ?_
    refine lv_iload_n X.1 X.2.1 d_M_demote_13 rfl (hl.at 1 rfl) ?_
    refine r_aldz X K hw rfl hp.1 d_M_demote_14 ?_
    have hp := hp.2
    refine lv_if_ne (tgt := 21) X.1 X.2.1 d_M_demote_15 (by decide) (fun g => ?_) (fun g => ?_)
    · rw [if_neg g] at hρ
      have hp := hp.2 g
      refine lv_aload_n X.1 X.2.1 d_M_demote_21 rfl (hl.at 0 rfl) ?_
      refine r_getr (j := 43) X K hw fg_M_60 rfl rfl d_M_demote_22 ?_
      refine lv_iload_n X.1 X.2.1 d_M_demote_25 rfl (hl.at 1 rfl) ?_
      refine r_aldz X K hw rfl hp.1 d_M_demote_26 ?_
      have hp := hp.2
      refine lv_if_ne (tgt := 33) X.1 X.2.1 d_M_demote_27 (by decide) (fun g => ?_) (fun g => ?_)
      · rw [if_neg g] at hρ
        have hp := hp.2 g
        refine lv_aload_n X.1 X.2.1 d_M_demote_33 rfl (hl.at 0 rfl) ?_
        refine lv_iload_n X.1 X.2.1 d_M_demote_34 rfl (hl.at 1 rfl) ?_
        refine lv_iconst (v := (0 : Int32)) X.1 X.2.1 d_M_demote_35 (by decide) ?_
        refine lv_bipush (v := (31 : Int32)) X.1 X.2.1 d_M_demote_36 (by decide) ?_
        refine r_callV (rest := []) X K hw hl.1 mf_M_90 rfl rfl rfl (c_M_pending l D cI cZ base ad fz x1 (0 : Int32) (31 : Int32) h hp.1) (by decide) ⟨Nat.le_refl _, Nat.le_refl _⟩ rfl rfl (Nat.le_of_ble_eq_true rfl) d_M_demote_38 (fun v h' H locs q hw => ?_)
        obtain ⟨rfl, rfl⟩ := q
        have hp := hp.2
        refine lv_if_le (tgt := 47) X.1 X.2.1 d_M_demote_41 (by decide) (fun g => ?_) (fun g => ?_)
        · rw [if_pos g] at hρ
          have hp := hp.1 g
          refine lv_aload_n X.1 X.2.1 d_M_demote_47 rfl (hl.at 0 rfl) ?_
          refine r_getr (j := 43) X K hw fg_M_60 rfl rfl d_M_demote_48 ?_
          refine lv_iload_n X.1 X.2.1 d_M_demote_51 rfl (hl.at 1 rfl) ?_
          refine lv_iconst (v := (0 : Int32)) X.1 X.2.1 d_M_demote_52 (by decide) ?_
          refine r_astz X K hw rfl hp.1 (by decide) d_M_demote_53 (fun H locs hw => ?_)
          have hp := hp.2
          refine lv_iconst (v := (0 : Int32)) X.1 X.2.1 d_M_demote_54 (by decide) ?_
          exact r_iret X hr hk hw ⟨congrArg (fun z => some (Value.int z.1)) hρ, (congrArg Prod.snd hρ).symm⟩ d_M_demote_55
        · rw [if_neg g] at hρ
          have hp := hp.2 g
          refine lv_bipush (v := (-5 : Int32)) X.1 X.2.1 d_M_demote_44 (by decide) ?_
          exact r_iret X hr hk hw ⟨congrArg (fun z => some (Value.int z.1)) hρ, (congrArg Prod.snd hρ).symm⟩ d_M_demote_46
      · rw [if_pos g] at hρ
        have hp := hp.1 g
        refine lv_bipush (v := (-3 : Int32)) X.1 X.2.1 d_M_demote_30 (by decide) ?_
        exact r_iret X hr hk hw ⟨congrArg (fun z => some (Value.int z.1)) hρ, (congrArg Prod.snd hρ).symm⟩ d_M_demote_32
    · rw [if_pos g] at hρ
      have hp := hp.1 g
      refine lv_bipush (v := (-2 : Int32)) X.1 X.2.1 d_M_demote_18 (by decide) ?_
      exact r_iret X hr hk hw ⟨congrArg (fun z => some (Value.int z.1)) hρ, (congrArg Prod.snd hρ).symm⟩ d_M_demote_20
  · rw [if_pos g] at hρ
    have hp := hp.1 g
    refine lv_iconst (v := (-1 : Int32)) X.1 X.2.1 d_M_demote_7 (by decide) ?_
    exact r_iret X hr hk hw ⟨congrArg (fun z => some (Value.int z.1)) hρ, (congrArg Prod.snd hρ).symm⟩ d_M_demote_8
set_option maxRecDepth 100000 in
theorem c_M_demote (l : Launch) (D : va_G) (cI cZ : ClassId) (base : Nat) (ad : Nat → Nat) (fz : Nat) (x1 : Int32) (h : HH) (hp : P_M_demote fz x1 h) : Ct l D cI cZ base ad y_M_demote b_M_demote 2 (some .int) 1 25 [.ref (ad 27), .int x1] h (pIH (B_M_demote fz x1 h)) := by
  refine Ct.of (by decide) (Nat.le_of_ble_eq_true rfl) (cat_ok rfl) ?_
  intro p e s m args below meth c ls X K hr hk hl hw
  exact w_M_demote fz x1 h _ rfl hp X K hr hk hl hw
set_option maxHeartbeats 4000000 in
set_option maxRecDepth 100000 in
theorem w_M_discard_75 (X : CallFix p m c b_M_discard 3 s args TB R_M) (K : KK D cI cZ s) (hr : meth.sig.returnType = (some .boolean)) (hk : meth.locks = false) (fz : Nat) : ∀ (fu : Nat) (x1 : Int32) (x2 : Int32) (h : HH) (ρ : Int32 × HH) (_ : B_M_discard_75 fz fu x1 x2 h = ρ) (_ : P_M_discard_75 fz fu x1 x2 h) {ls : Array Slot} {H : Heap} {locs : List Loc} (_ : Lc ls 3 [some (.ref (ad 27)), some (.int x1), some (.int x2)]) (_ : Hw D cI cZ base ad s shape h H locs), W p l e (rmD 1 24) s m args below meth c H locs 0 0 (MQ below (Qw D cI cZ base ad (pIH ρ)) args s 0 0 (fun q => base ≤ q)) (F0 m 75 ls []) := by
  intro fu
  induction fu with
  | zero =>
    intro x1 x2 h ρ hρ hp ls H locs hl hw
    exact hp.elim
  | succ fu ih =>
    intro x1 x2 h ρ hρ hp ls H locs hl hw
    rw [B_M_discard_75] at hρ
    rw [P_M_discard_75] at hp
    refine lv_iload_n X.1 X.2.1 d_M_discard_75 rfl (hl.at 2 rfl) ?_
    refine lv_bipush (v := (32 : Int32)) X.1 X.2.1 d_M_discard_76 (by decide) ?_
    refine lv_icmp_ge (tgt := 99) X.1 X.2.1 d_M_discard_78 (by decide) (fun g => ?_) (fun g => ?_)
    · rw [if_pos g] at hρ
      have hp := hp.1 g
      refine lv_aload_n X.1 X.2.1 d_M_discard_99 rfl (hl.at 0 rfl) ?_
      refine lv_iload_n X.1 X.2.1 d_M_discard_100 rfl (hl.at 1 rfl) ?_
      refine lv_iconst (v := (3 : Int32)) X.1 X.2.1 d_M_discard_101 (by decide) ?_
      refine lv_iconst (v := (4 : Int32)) X.1 X.2.1 d_M_discard_102 (by decide) ?_
      refine r_callV (rest := []) X K hw hl.1 mf_M_101 rfl rfl rfl (c_M_turnInto l D cI cZ base ad fz x1 (3 : Int32) (4 : Int32) h hp.1) (by decide) ⟨Nat.le_refl _, Nat.le_refl _⟩ rfl rfl (Nat.le_of_ble_eq_true rfl) d_M_discard_103 (fun v h' H locs q hw => ?_)
      obtain ⟨rfl, rfl⟩ := q
      have hp := hp.2
      refine lv_iconst (v := (1 : Int32)) X.1 X.2.1 d_M_discard_106 (by decide) ?_
      exact r_zret X hr hk hw (by decide) ⟨congrArg (fun z => some (Value.int z.1)) hρ, (congrArg Prod.snd hρ).symm⟩ d_M_discard_107
    · rw [if_neg g] at hρ
      have hp := hp.2 g
      refine lv_aload_n X.1 X.2.1 d_M_discard_81 rfl (hl.at 0 rfl) ?_
      refine r_getr (j := 35) X K hw fg_M_32 rfl rfl d_M_discard_82 ?_
      refine lv_bipush (v := (32 : Int32)) X.1 X.2.1 d_M_discard_85 (by decide) ?_
      refine lv_iload_n X.1 X.2.1 d_M_discard_87 rfl (hl.at 1 rfl) ?_
      refine lv_imul X.1 X.2.1 d_M_discard_88 ?_
      refine lv_iload_n X.1 X.2.1 d_M_discard_89 rfl (hl.at 2 rfl) ?_
      refine lv_iadd X.1 X.2.1 d_M_discard_90 ?_
      refine lv_iconst (v := (0 : Int32)) X.1 X.2.1 d_M_discard_91 (by decide) ?_
      refine r_astz X K hw rfl hp.1 (by decide) d_M_discard_92 (fun H locs hw => ?_)
      have hp := hp.2
      refine lv_iincL X.1 X.2.1 hl (v := (x2 + 1)) d_M_discard_93 rfl (congrArg (fun z => x2 + z) (by decide)) (by decide) (fun ls hl => ?_)
      have hl : Lc ls 3 [some (.ref (ad 27)), some (.int x1), some (.int (x2 + 1))] := hl
      refine lv_goto (tgt := 75) X.1 X.2.1 d_M_discard_96 (by decide) ?_
      exact ih x1 (x2 + 1) (u2 h 35 (ix (((32 : Int32) * x1) + x2)) (0 : Int32)) ρ hρ hp hl hw
set_option maxHeartbeats 4000000 in
set_option maxRecDepth 100000 in
theorem w_M_discard (fz : Nat) (x1 : Int32) (h : HH) (ρ : Int32 × HH) (hρ : B_M_discard fz x1 h = ρ) (hp : P_M_discard fz x1 h) (X : CallFix p m c b_M_discard 3 s args TB R_M) (K : KK D cI cZ s) (hr : meth.sig.returnType = (some .boolean)) (hk : meth.locks = false) {ls : Array Slot} {H : Heap} {locs : List Loc} (hl : Lc ls 3 [some (.ref (ad 27)), some (.int x1), none]) (hw : Hw D cI cZ base ad s shape h H locs) : W p l e (rmD 1 24) s m args below meth c H locs 0 0 (MQ below (Qw D cI cZ base ad (pIH ρ)) args s 0 0 (fun q => base ≤ q)) (F0 m 0 ls []) := by
  unfold B_M_discard at hρ
  unfold P_M_discard at hp
  refine lv_iload_n X.1 X.2.1 d_M_discard_0 rfl (hl.at 1 rfl) ?_
  refine r_callS (rest := []) X K hw hl.1 mf_M_117 (c_M_isNode l D cI cZ base ad fz x1 h hp.1) (by decide) ⟨Nat.le_refl _, Nat.le_refl _⟩ rfl rfl (Nat.le_of_ble_eq_true rfl) d_M_discard_1 (fun v h' H locs q hw => ?_)
  obtain ⟨rfl, rfl⟩ := q
  have hp := hp.2
  refine lv_if_eq (tgt := 43) X.1 X.2.1 d_M_discard_4 (by decide) (fun g => ?_) (fun g => ?_)
  · rw [if_pos g] at hρ
    have hp := hp.1 g
    refine lv_iconst (v := (0 : Int32)) X.1 X.2.1 d_M_discard_43 (by decide) ?_
    exact r_zret X hr hk hw (by decide) ⟨congrArg (fun z => some (Value.int z.1)) hρ, (congrArg Prod.snd hρ).symm⟩ d_M_discard_44
  · rw [if_neg g] at hρ
    have hp := hp.2 g
    refine lv_aload_n X.1 X.2.1 d_M_discard_7 rfl (hl.at 0 rfl) ?_
    refine r_getr (j := 42) X K hw fg_M_57 rfl rfl d_M_discard_8 ?_
    refine lv_iload_n X.1 X.2.1 d_M_discard_11 rfl (hl.at 1 rfl) ?_
    refine r_aldz X K hw rfl hp.1 d_M_discard_12 ?_
    have hp := hp.2
    refine lv_if_eq (tgt := 43) X.1 X.2.1 d_M_discard_13 (by decide) (fun g => ?_) (fun g => ?_)
    · rw [if_pos g] at hρ
      have hp := hp.1 g
      refine lv_iconst (v := (0 : Int32)) X.1 X.2.1 d_M_discard_43 (by decide) ?_
      exact r_zret X hr hk hw (by decide) ⟨congrArg (fun z => some (Value.int z.1)) hρ, (congrArg Prod.snd hρ).symm⟩ d_M_discard_44
    · rw [if_neg g] at hρ
      have hp := hp.2 g
      refine lv_aload_n X.1 X.2.1 d_M_discard_16 rfl (hl.at 0 rfl) ?_
      refine r_getr (j := 43) X K hw fg_M_60 rfl rfl d_M_discard_17 ?_
      refine lv_iload_n X.1 X.2.1 d_M_discard_20 rfl (hl.at 1 rfl) ?_
      refine r_aldz X K hw rfl hp.1 d_M_discard_21 ?_
      have hp := hp.2
      refine lv_if_ne (tgt := 43) X.1 X.2.1 d_M_discard_22 (by decide) (fun g => ?_) (fun g => ?_)
      · rw [if_neg g] at hρ
        have hp := hp.2 g
        refine lv_iconst (v := (0 : Int32)) X.1 X.2.1 d_M_discard_43 (by decide) ?_
        exact r_zret X hr hk hw (by decide) ⟨congrArg (fun z => some (Value.int z.1)) hρ, (congrArg Prod.snd hρ).symm⟩ d_M_discard_44
      · rw [if_pos g] at hρ
        have hp := hp.1 g
        refine lv_aload_n X.1 X.2.1 d_M_discard_25 rfl (hl.at 0 rfl) ?_
        refine r_geti X K hw fg_M_109 rfl rfl d_M_discard_26 ?_
        refine lv_if_ne (tgt := 43) X.1 X.2.1 d_M_discard_29 (by decide) (fun g => ?_) (fun g => ?_)
        · rw [if_neg g] at hρ
          have hp := hp.2 g
          refine lv_iconst (v := (0 : Int32)) X.1 X.2.1 d_M_discard_43 (by decide) ?_
          exact r_zret X hr hk hw (by decide) ⟨congrArg (fun z => some (Value.int z.1)) hρ, (congrArg Prod.snd hρ).symm⟩ d_M_discard_44
        · rw [if_pos g] at hρ
          have hp := hp.1 g
          refine lv_aload_n X.1 X.2.1 d_M_discard_32 rfl (hl.at 0 rfl) ?_
          refine r_getr (j := 40) X K hw fg_M_51 rfl rfl d_M_discard_33 ?_
          refine lv_iconst (v := (1 : Int32)) X.1 X.2.1 d_M_discard_36 (by decide) ?_
          refine lv_iload_n X.1 X.2.1 d_M_discard_37 rfl (hl.at 1 rfl) ?_
          refine lv_isub X.1 X.2.1 d_M_discard_38 ?_
          refine r_aldz X K hw rfl hp.1 d_M_discard_39 ?_
          have hp := hp.2
          refine lv_if_eq (tgt := 45) X.1 X.2.1 d_M_discard_40 (by decide) (fun g => ?_) (fun g => ?_)
          · rw [if_pos g] at hρ
            have hp := hp.1 g
            refine lv_aload_n X.1 X.2.1 d_M_discard_45 rfl (hl.at 0 rfl) ?_
            refine r_getr (j := 40) X K hw fg_M_51 rfl rfl d_M_discard_46 ?_
            refine lv_iload_n X.1 X.2.1 d_M_discard_49 rfl (hl.at 1 rfl) ?_
            refine lv_iconst (v := (1 : Int32)) X.1 X.2.1 d_M_discard_50 (by decide) ?_
            refine r_astz X K hw rfl hp.1 (by decide) d_M_discard_51 (fun H locs hw => ?_)
            have hp := hp.2
            refine lv_aload_n X.1 X.2.1 d_M_discard_52 rfl (hl.at 0 rfl) ?_
            refine r_getr (j := 41) X K hw fg_M_54 rfl rfl d_M_discard_53 ?_
            refine lv_iload_n X.1 X.2.1 d_M_discard_56 rfl (hl.at 1 rfl) ?_
            refine lv_iconst (v := (0 : Int32)) X.1 X.2.1 d_M_discard_57 (by decide) ?_
            refine r_astz X K hw rfl hp.1 (by decide) d_M_discard_58 (fun H locs hw => ?_)
            have hp := hp.2
            refine lv_aload_n X.1 X.2.1 d_M_discard_59 rfl (hl.at 0 rfl) ?_
            refine r_getr (j := 38) X K hw fg_M_41 rfl rfl d_M_discard_60 ?_
            refine lv_iload_n X.1 X.2.1 d_M_discard_63 rfl (hl.at 1 rfl) ?_
            refine lv_iconst (v := (0 : Int32)) X.1 X.2.1 d_M_discard_64 (by decide) ?_
            refine r_ast X K hw rfl hp.1 d_M_discard_65 (fun H locs hw => ?_)
            have hp := hp.2
            refine lv_aload_n X.1 X.2.1 d_M_discard_66 rfl (hl.at 0 rfl) ?_
            refine r_getr (j := 39) X K hw fg_M_44 rfl rfl d_M_discard_67 ?_
            refine lv_iload_n X.1 X.2.1 d_M_discard_70 rfl (hl.at 1 rfl) ?_
            refine lv_iconst (v := (0 : Int32)) X.1 X.2.1 d_M_discard_71 (by decide) ?_
            refine r_ast X K hw rfl hp.1 d_M_discard_72 (fun H locs hw => ?_)
            have hp := hp.2
            refine lv_iconst (v := (0 : Int32)) X.1 X.2.1 d_M_discard_73 (by decide) ?_
            refine r_istore_n X hl d_M_discard_74 rfl (by decide) (fun ls hl => ?_)
            have hl : Lc ls 3 [some (.ref (ad 27)), some (.int x1), some (.int (0 : Int32))] := hl
            exact w_M_discard_75 X K hr hk fz fz x1 (0 : Int32) (u2 (u2 (u2 (u2 h 40 (ix x1) (1 : Int32)) 41 (ix x1) (0 : Int32)) 38 (ix x1) (0 : Int32)) 39 (ix x1) (0 : Int32)) ρ hρ hp hl hw
          · rw [if_neg g] at hρ
            have hp := hp.2 g
            refine lv_iconst (v := (0 : Int32)) X.1 X.2.1 d_M_discard_43 (by decide) ?_
            exact r_zret X hr hk hw (by decide) ⟨congrArg (fun z => some (Value.int z.1)) hρ, (congrArg Prod.snd hρ).symm⟩ d_M_discard_44
set_option maxRecDepth 100000 in
theorem c_M_discard (l : Launch) (D : va_G) (cI cZ : ClassId) (base : Nat) (ad : Nat → Nat) (fz : Nat) (x1 : Int32) (h : HH) (hp : P_M_discard fz x1 h) : Ct l D cI cZ base ad y_M_discard b_M_discard 3 (some .boolean) 1 24 [.ref (ad 27), .int x1] h (pIH (B_M_discard fz x1 h)) := by
  refine Ct.of (by decide) (Nat.le_of_ble_eq_true rfl) (cat_ok rfl) ?_
  intro p e s m args below meth c ls X K hr hk hl hw
  exact w_M_discard fz x1 h _ rfl hp X K hr hk hl hw
set_option maxHeartbeats 4000000 in
set_option maxRecDepth 100000 in
theorem w_M_disk (fz : Nat) (x1 : Int32) (x2 : Int32) (h : HH) (ρ : Int32) (hρ : B_M_disk fz x1 x2 h = ρ) (hp : P_M_disk fz x1 x2 h) (X : CallFix p m c b_M_disk 3 s args TB R_M) (K : KK D cI cZ s) (hr : meth.sig.returnType = (some .int)) (hk : meth.locks = false) {ls : Array Slot} {H : Heap} {locs : List Loc} (hl : Lc ls 3 [some (.ref (ad 27)), some (.int x1), some (.int x2)]) (hw : Hw D cI cZ base ad s shape h H locs) : W p l e (rmD 1 20) s m args below meth c H locs 0 0 (MQ below (Qw D cI cZ base ad (pI h ρ)) args s 0 0 (fun q => base ≤ q)) (F0 m 0 ls []) := by
  unfold B_M_disk at hρ
  unfold P_M_disk at hp
  refine lv_iload_n X.1 X.2.1 d_M_disk_0 rfl (hl.at 1 rfl) ?_
  refine r_callS (rest := []) X K hw hl.1 mf_M_117 (c_M_isNode l D cI cZ base ad fz x1 h hp.1) (by decide) ⟨Nat.le_refl _, Nat.le_refl _⟩ rfl rfl (Nat.le_of_ble_eq_true rfl) d_M_disk_1 (fun v h' H locs q hw => ?_)
  obtain ⟨rfl, rfl⟩ := q
  have hp := hp.2
  refine lv_if_eq (tgt := 28) X.1 X.2.1 d_M_disk_4 (by decide) (fun g => ?_) (fun g => ?_)
  · rw [if_pos g] at hρ
    have hp := hp.1 g
    refine lv_iconst (v := (0 : Int32)) X.1 X.2.1 d_M_disk_28 (by decide) ?_
    exact r_iret X hr hk hw ⟨congrArg (fun z => some (Value.int z)) hρ, rfl⟩ d_M_disk_29
  · rw [if_neg g] at hρ
    have hp := hp.2 g
    refine lv_iload_n X.1 X.2.1 d_M_disk_7 rfl (hl.at 2 rfl) ?_
    refine r_callS (rest := []) X K hw hl.1 mf_M_120 (c_M_isBlock l D cI cZ base ad fz x2 h hp.1) (by decide) ⟨Nat.le_refl _, Nat.le_refl _⟩ rfl rfl (Nat.le_of_ble_eq_true rfl) d_M_disk_8 (fun v h' H locs q hw => ?_)
    obtain ⟨rfl, rfl⟩ := q
    have hp := hp.2
    refine lv_if_eq (tgt := 28) X.1 X.2.1 d_M_disk_11 (by decide) (fun g => ?_) (fun g => ?_)
    · rw [if_pos g] at hρ
      have hp := hp.1 g
      refine lv_iconst (v := (0 : Int32)) X.1 X.2.1 d_M_disk_28 (by decide) ?_
      exact r_iret X hr hk hw ⟨congrArg (fun z => some (Value.int z)) hρ, rfl⟩ d_M_disk_29
    · rw [if_neg g] at hρ
      have hp := hp.2 g
      refine lv_aload_n X.1 X.2.1 d_M_disk_14 rfl (hl.at 0 rfl) ?_
      refine r_getr (j := 34) X K hw fg_M_29 rfl rfl d_M_disk_15 ?_
      refine lv_bipush (v := (32 : Int32)) X.1 X.2.1 d_M_disk_18 (by decide) ?_
      refine lv_iload_n X.1 X.2.1 d_M_disk_20 rfl (hl.at 1 rfl) ?_
      refine lv_imul X.1 X.2.1 d_M_disk_21 ?_
      refine lv_iload_n X.1 X.2.1 d_M_disk_22 rfl (hl.at 2 rfl) ?_
      refine lv_iadd X.1 X.2.1 d_M_disk_23 ?_
      refine r_ald X K hw rfl hp.1 d_M_disk_24 ?_
      have hp := hp.2
      refine lv_goto (tgt := 29) X.1 X.2.1 d_M_disk_25 (by decide) ?_
      exact r_iret X hr hk hw ⟨congrArg (fun z => some (Value.int z)) hρ, rfl⟩ d_M_disk_29
set_option maxRecDepth 100000 in
theorem c_M_disk (l : Launch) (D : va_G) (cI cZ : ClassId) (base : Nat) (ad : Nat → Nat) (fz : Nat) (x1 : Int32) (x2 : Int32) (h : HH) (hp : P_M_disk fz x1 x2 h) : Ct l D cI cZ base ad y_M_disk b_M_disk 3 (some .int) 1 20 [.ref (ad 27), .int x1, .int x2] h (pI h (B_M_disk fz x1 x2 h)) := by
  refine Ct.of (by decide) (Nat.le_of_ble_eq_true rfl) (cat_ok rfl) ?_
  intro p e s m args below meth c ls X K hr hk hl hw
  exact w_M_disk fz x1 x2 h _ rfl hp X K hr hk hl hw
set_option maxHeartbeats 4000000 in
set_option maxRecDepth 100000 in
theorem w_M_fate (fz : Nat) (x1 : Int32) (h : HH) (ρ : Int32) (hρ : B_M_fate fz x1 h = ρ) (hp : P_M_fate fz x1 h) (X : CallFix p m c b_M_fate 2 s args TB R_M) (K : KK D cI cZ s) (hr : meth.sig.returnType = (some .int)) (hk : meth.locks = false) {ls : Array Slot} {H : Heap} {locs : List Loc} (hl : Lc ls 2 [some (.ref (ad 27)), some (.int x1)]) (hw : Hw D cI cZ base ad s shape h H locs) : W p l e (rmD 0 0) s m args below meth c H locs 0 0 (MQ below (Qw D cI cZ base ad (pI h ρ)) args s 0 0 (fun q => base ≤ q)) (F0 m 0 ls []) := by
  unfold B_M_fate at hρ
  unfold P_M_fate at hp
  refine lv_iload_n X.1 X.2.1 d_M_fate_0 rfl (hl.at 1 rfl) ?_
  refine lv_iconst (v := (1 : Int32)) X.1 X.2.1 d_M_fate_1 (by decide) ?_
  refine lv_icmp_lt (tgt := 22) X.1 X.2.1 d_M_fate_2 (by decide) (fun g => ?_) (fun g => ?_)
  · rw [if_pos g] at hρ
    have hp := hp.1 g
    refine lv_iconst (v := (0 : Int32)) X.1 X.2.1 d_M_fate_22 (by decide) ?_
    exact r_iret X hr hk hw ⟨congrArg (fun z => some (Value.int z)) hρ, rfl⟩ d_M_fate_23
  · rw [if_neg g] at hρ
    have hp := hp.2 g
    refine lv_iload_n X.1 X.2.1 d_M_fate_5 rfl (hl.at 1 rfl) ?_
    refine lv_aload_n X.1 X.2.1 d_M_fate_6 rfl (hl.at 0 rfl) ?_
    refine r_geti X K hw fg_M_87 rfl rfl d_M_fate_7 ?_
    refine lv_icmp_gt (tgt := 22) X.1 X.2.1 d_M_fate_10 (by decide) (fun g => ?_) (fun g => ?_)
    · rw [if_pos g] at hρ
      have hp := hp.1 g
      refine lv_iconst (v := (0 : Int32)) X.1 X.2.1 d_M_fate_22 (by decide) ?_
      exact r_iret X hr hk hw ⟨congrArg (fun z => some (Value.int z)) hρ, rfl⟩ d_M_fate_23
    · rw [if_neg g] at hρ
      have hp := hp.2 g
      refine lv_aload_n X.1 X.2.1 d_M_fate_13 rfl (hl.at 0 rfl) ?_
      refine r_getr (j := 32) X K hw fg_M_22 rfl rfl d_M_fate_14 ?_
      refine lv_iload_n X.1 X.2.1 d_M_fate_17 rfl (hl.at 1 rfl) ?_
      refine r_ald X K hw rfl hp.1 d_M_fate_18 ?_
      have hp := hp.2
      refine lv_goto (tgt := 23) X.1 X.2.1 d_M_fate_19 (by decide) ?_
      exact r_iret X hr hk hw ⟨congrArg (fun z => some (Value.int z)) hρ, rfl⟩ d_M_fate_23
set_option maxRecDepth 100000 in
theorem c_M_fate (l : Launch) (D : va_G) (cI cZ : ClassId) (base : Nat) (ad : Nat → Nat) (fz : Nat) (x1 : Int32) (h : HH) (hp : P_M_fate fz x1 h) : Ct l D cI cZ base ad y_M_fate b_M_fate 2 (some .int) 0 0 [.ref (ad 27), .int x1] h (pI h (B_M_fate fz x1 h)) := by
  refine Ct.of (by decide) (Nat.le_of_ble_eq_true rfl) (cat_ok rfl) ?_
  intro p e s m args below meth c ls X K hr hk hl hw
  exact w_M_fate fz x1 h _ rfl hp X K hr hk hl hw
set_option maxHeartbeats 4000000 in
set_option maxRecDepth 100000 in
theorem w_M_state_116 (fz : Nat) (y0 : Int32) (y1 : Int32) (h : HH) (ρ : Int32) (hρ : B_M_state_116 fz y0 y1 h = ρ) (hp : P_M_state_116 fz y0 y1 h) (X : CallFix p m c b_M_state 3 s args TB R_M) (K : KK D cI cZ s) (hr : meth.sig.returnType = (some .int)) (hk : meth.locks = false) {ls : Array Slot} {H : Heap} {locs : List Loc} (hl : Lc ls 3 [none, none, none]) (hw : Hw D cI cZ base ad s shape h H locs) : W p l e (rmD 1 20) s m args below meth c H locs 0 0 (MQ below (Qw D cI cZ base ad (pI h ρ)) args s 0 0 (fun q => base ≤ q)) (F0 m 116 ls [.int y1, .int y0]) := by
  unfold B_M_state_116 at hρ
  unfold P_M_state_116 at hp
  refine lv_iadd X.1 X.2.1 d_M_state_116 ?_
  exact r_iret X hr hk hw ⟨congrArg (fun z => some (Value.int z)) hρ, rfl⟩ d_M_state_117
set_option maxHeartbeats 4000000 in
set_option maxRecDepth 100000 in
theorem w_M_state_100 (fz : Nat) (x1 : Int32) (y0 : Int32) (y1 : Int32) (h : HH) (ρ : Int32) (hρ : B_M_state_100 fz x1 y0 y1 h = ρ) (hp : P_M_state_100 fz x1 y0 y1 h) (X : CallFix p m c b_M_state 3 s args TB R_M) (K : KK D cI cZ s) (hr : meth.sig.returnType = (some .int)) (hk : meth.locks = false) {ls : Array Slot} {H : Heap} {locs : List Loc} (hl : Lc ls 3 [some (.ref (ad 27)), some (.int x1), none]) (hw : Hw D cI cZ base ad s shape h H locs) : W p l e (rmD 1 20) s m args below meth c H locs 0 0 (MQ below (Qw D cI cZ base ad (pI h ρ)) args s 0 0 (fun q => base ≤ q)) (F0 m 100 ls [.int y1, .int y0]) := by
  unfold B_M_state_100 at hρ
  unfold P_M_state_100 at hp
  refine lv_iadd X.1 X.2.1 d_M_state_100 ?_
  refine lv_aload_n X.1 X.2.1 d_M_state_101 rfl (hl.at 0 rfl) ?_
  refine r_getr (j := 45) X K hw fg_M_66 rfl rfl d_M_state_102 ?_
  refine lv_iload_n X.1 X.2.1 d_M_state_105 rfl (hl.at 1 rfl) ?_
  refine r_aldz X K hw rfl hp.1 d_M_state_106 ?_
  have hp := hp.2
  refine lv_if_eq (tgt := 115) X.1 X.2.1 d_M_state_107 (by decide) (fun g => ?_) (fun g => ?_)
  · rw [if_pos g] at hρ
    have hp := hp.1 g
    refine lv_iconst (v := (0 : Int32)) X.1 X.2.1 d_M_state_115 (by decide) ?_
    have hl : Lc ls 3 [none, none, none] := hl.mask [false, false, false]
    exact w_M_state_116 fz (y0 + y1) (0 : Int32) h ρ hρ hp X K hr hk hl hw
  · rw [if_neg g] at hρ
    have hp := hp.2 g
    refine lv_bipush (v := (64 : Int32)) X.1 X.2.1 d_M_state_110 (by decide) ?_
    refine lv_goto (tgt := 116) X.1 X.2.1 d_M_state_112 (by decide) ?_
    have hl : Lc ls 3 [none, none, none] := hl.mask [false, false, false]
    exact w_M_state_116 fz (y0 + y1) (64 : Int32) h ρ hρ hp X K hr hk hl hw
set_option maxHeartbeats 4000000 in
set_option maxRecDepth 100000 in
theorem w_M_state_84 (fz : Nat) (x1 : Int32) (y0 : Int32) (y1 : Int32) (h : HH) (ρ : Int32) (hρ : B_M_state_84 fz x1 y0 y1 h = ρ) (hp : P_M_state_84 fz x1 y0 y1 h) (X : CallFix p m c b_M_state 3 s args TB R_M) (K : KK D cI cZ s) (hr : meth.sig.returnType = (some .int)) (hk : meth.locks = false) {ls : Array Slot} {H : Heap} {locs : List Loc} (hl : Lc ls 3 [some (.ref (ad 27)), some (.int x1), none]) (hw : Hw D cI cZ base ad s shape h H locs) : W p l e (rmD 1 20) s m args below meth c H locs 0 0 (MQ below (Qw D cI cZ base ad (pI h ρ)) args s 0 0 (fun q => base ≤ q)) (F0 m 84 ls [.int y1, .int y0]) := by
  unfold B_M_state_84 at hρ
  unfold P_M_state_84 at hp
  refine lv_iadd X.1 X.2.1 d_M_state_84 ?_
  refine lv_aload_n X.1 X.2.1 d_M_state_85 rfl (hl.at 0 rfl) ?_
  refine r_getr (j := 44) X K hw fg_M_63 rfl rfl d_M_state_86 ?_
  refine lv_iload_n X.1 X.2.1 d_M_state_89 rfl (hl.at 1 rfl) ?_
  refine r_aldz X K hw rfl hp.1 d_M_state_90 ?_
  have hp := hp.2
  refine lv_if_eq (tgt := 99) X.1 X.2.1 d_M_state_91 (by decide) (fun g => ?_) (fun g => ?_)
  · rw [if_pos g] at hρ
    have hp := hp.1 g
    refine lv_iconst (v := (0 : Int32)) X.1 X.2.1 d_M_state_99 (by decide) ?_
    exact w_M_state_100 fz x1 (y0 + y1) (0 : Int32) h ρ hρ hp X K hr hk hl hw
  · rw [if_neg g] at hρ
    have hp := hp.2 g
    refine lv_bipush (v := (32 : Int32)) X.1 X.2.1 d_M_state_94 (by decide) ?_
    refine lv_goto (tgt := 100) X.1 X.2.1 d_M_state_96 (by decide) ?_
    exact w_M_state_100 fz x1 (y0 + y1) (32 : Int32) h ρ hρ hp X K hr hk hl hw
set_option maxHeartbeats 4000000 in
set_option maxRecDepth 100000 in
theorem w_M_state_68 (fz : Nat) (x1 : Int32) (y0 : Int32) (y1 : Int32) (h : HH) (ρ : Int32) (hρ : B_M_state_68 fz x1 y0 y1 h = ρ) (hp : P_M_state_68 fz x1 y0 y1 h) (X : CallFix p m c b_M_state 3 s args TB R_M) (K : KK D cI cZ s) (hr : meth.sig.returnType = (some .int)) (hk : meth.locks = false) {ls : Array Slot} {H : Heap} {locs : List Loc} (hl : Lc ls 3 [some (.ref (ad 27)), some (.int x1), none]) (hw : Hw D cI cZ base ad s shape h H locs) : W p l e (rmD 1 20) s m args below meth c H locs 0 0 (MQ below (Qw D cI cZ base ad (pI h ρ)) args s 0 0 (fun q => base ≤ q)) (F0 m 68 ls [.int y1, .int y0]) := by
  unfold B_M_state_68 at hρ
  unfold P_M_state_68 at hp
  refine lv_iadd X.1 X.2.1 d_M_state_68 ?_
  refine r_istore_n X hl d_M_state_69 rfl (by decide) (fun ls hl => ?_)
  have hl : Lc ls 3 [some (.ref (ad 27)), some (.int x1), some (.int (y0 + y1))] := hl
  refine lv_iload_n X.1 X.2.1 d_M_state_70 rfl (hl.at 2 rfl) ?_
  refine lv_aload_n X.1 X.2.1 d_M_state_71 rfl (hl.at 0 rfl) ?_
  refine r_geti X K hw fg_M_109 rfl rfl d_M_state_72 ?_
  refine lv_if_eq (tgt := 83) X.1 X.2.1 d_M_state_75 (by decide) (fun g => ?_) (fun g => ?_)
  · rw [if_pos g] at hρ
    have hp := hp.1 g
    refine lv_iconst (v := (0 : Int32)) X.1 X.2.1 d_M_state_83 (by decide) ?_
    have hl : Lc ls 3 [some (.ref (ad 27)), some (.int x1), none] := hl.mask [true, true, false]
    exact w_M_state_84 fz x1 (y0 + y1) (0 : Int32) h ρ hρ hp X K hr hk hl hw
  · rw [if_neg g] at hρ
    have hp := hp.2 g
    refine lv_bipush (v := (16 : Int32)) X.1 X.2.1 d_M_state_78 (by decide) ?_
    refine lv_goto (tgt := 84) X.1 X.2.1 d_M_state_80 (by decide) ?_
    have hl : Lc ls 3 [some (.ref (ad 27)), some (.int x1), none] := hl.mask [true, true, false]
    exact w_M_state_84 fz x1 (y0 + y1) (16 : Int32) h ρ hρ hp X K hr hk hl hw
set_option maxHeartbeats 4000000 in
set_option maxRecDepth 100000 in
theorem w_M_state_52 (fz : Nat) (x1 : Int32) (y0 : Int32) (y1 : Int32) (h : HH) (ρ : Int32) (hρ : B_M_state_52 fz x1 y0 y1 h = ρ) (hp : P_M_state_52 fz x1 y0 y1 h) (X : CallFix p m c b_M_state 3 s args TB R_M) (K : KK D cI cZ s) (hr : meth.sig.returnType = (some .int)) (hk : meth.locks = false) {ls : Array Slot} {H : Heap} {locs : List Loc} (hl : Lc ls 3 [some (.ref (ad 27)), some (.int x1), none]) (hw : Hw D cI cZ base ad s shape h H locs) : W p l e (rmD 1 20) s m args below meth c H locs 0 0 (MQ below (Qw D cI cZ base ad (pI h ρ)) args s 0 0 (fun q => base ≤ q)) (F0 m 52 ls [.int y1, .int y0]) := by
  unfold B_M_state_52 at hρ
  unfold P_M_state_52 at hp
  refine lv_iadd X.1 X.2.1 d_M_state_52 ?_
  refine lv_aload_n X.1 X.2.1 d_M_state_53 rfl (hl.at 0 rfl) ?_
  refine r_getr (j := 41) X K hw fg_M_54 rfl rfl d_M_state_54 ?_
  refine lv_iload_n X.1 X.2.1 d_M_state_57 rfl (hl.at 1 rfl) ?_
  refine r_aldz X K hw rfl hp.1 d_M_state_58 ?_
  have hp := hp.2
  refine lv_if_eq (tgt := 67) X.1 X.2.1 d_M_state_59 (by decide) (fun g => ?_) (fun g => ?_)
  · rw [if_pos g] at hρ
    have hp := hp.1 g
    refine lv_iconst (v := (0 : Int32)) X.1 X.2.1 d_M_state_67 (by decide) ?_
    exact w_M_state_68 fz x1 (y0 + y1) (0 : Int32) h ρ hρ hp X K hr hk hl hw
  · rw [if_neg g] at hρ
    have hp := hp.2 g
    refine lv_bipush (v := (8 : Int32)) X.1 X.2.1 d_M_state_62 (by decide) ?_
    refine lv_goto (tgt := 68) X.1 X.2.1 d_M_state_64 (by decide) ?_
    exact w_M_state_68 fz x1 (y0 + y1) (8 : Int32) h ρ hρ hp X K hr hk hl hw
set_option maxHeartbeats 4000000 in
set_option maxRecDepth 100000 in
theorem w_M_state_37 (fz : Nat) (x1 : Int32) (y0 : Int32) (y1 : Int32) (h : HH) (ρ : Int32) (hρ : B_M_state_37 fz x1 y0 y1 h = ρ) (hp : P_M_state_37 fz x1 y0 y1 h) (X : CallFix p m c b_M_state 3 s args TB R_M) (K : KK D cI cZ s) (hr : meth.sig.returnType = (some .int)) (hk : meth.locks = false) {ls : Array Slot} {H : Heap} {locs : List Loc} (hl : Lc ls 3 [some (.ref (ad 27)), some (.int x1), none]) (hw : Hw D cI cZ base ad s shape h H locs) : W p l e (rmD 1 20) s m args below meth c H locs 0 0 (MQ below (Qw D cI cZ base ad (pI h ρ)) args s 0 0 (fun q => base ≤ q)) (F0 m 37 ls [.int y1, .int y0]) := by
  unfold B_M_state_37 at hρ
  unfold P_M_state_37 at hp
  refine lv_iadd X.1 X.2.1 d_M_state_37 ?_
  refine lv_aload_n X.1 X.2.1 d_M_state_38 rfl (hl.at 0 rfl) ?_
  refine r_getr (j := 40) X K hw fg_M_51 rfl rfl d_M_state_39 ?_
  refine lv_iload_n X.1 X.2.1 d_M_state_42 rfl (hl.at 1 rfl) ?_
  refine r_aldz X K hw rfl hp.1 d_M_state_43 ?_
  have hp := hp.2
  refine lv_if_eq (tgt := 51) X.1 X.2.1 d_M_state_44 (by decide) (fun g => ?_) (fun g => ?_)
  · rw [if_pos g] at hρ
    have hp := hp.1 g
    refine lv_iconst (v := (0 : Int32)) X.1 X.2.1 d_M_state_51 (by decide) ?_
    exact w_M_state_52 fz x1 (y0 + y1) (0 : Int32) h ρ hρ hp X K hr hk hl hw
  · rw [if_neg g] at hρ
    have hp := hp.2 g
    refine lv_iconst (v := (4 : Int32)) X.1 X.2.1 d_M_state_47 (by decide) ?_
    refine lv_goto (tgt := 52) X.1 X.2.1 d_M_state_48 (by decide) ?_
    exact w_M_state_52 fz x1 (y0 + y1) (4 : Int32) h ρ hρ hp X K hr hk hl hw
set_option maxHeartbeats 4000000 in
set_option maxRecDepth 100000 in
theorem w_M_state_23 (fz : Nat) (x1 : Int32) (y0 : Int32) (h : HH) (ρ : Int32) (hρ : B_M_state_23 fz x1 y0 h = ρ) (hp : P_M_state_23 fz x1 y0 h) (X : CallFix p m c b_M_state 3 s args TB R_M) (K : KK D cI cZ s) (hr : meth.sig.returnType = (some .int)) (hk : meth.locks = false) {ls : Array Slot} {H : Heap} {locs : List Loc} (hl : Lc ls 3 [some (.ref (ad 27)), some (.int x1), none]) (hw : Hw D cI cZ base ad s shape h H locs) : W p l e (rmD 1 20) s m args below meth c H locs 0 0 (MQ below (Qw D cI cZ base ad (pI h ρ)) args s 0 0 (fun q => base ≤ q)) (F0 m 23 ls [.int y0]) := by
  unfold B_M_state_23 at hρ
  unfold P_M_state_23 at hp
  refine lv_aload_n X.1 X.2.1 d_M_state_23 rfl (hl.at 0 rfl) ?_
  refine r_getr (j := 43) X K hw fg_M_60 rfl rfl d_M_state_24 ?_
  refine lv_iload_n X.1 X.2.1 d_M_state_27 rfl (hl.at 1 rfl) ?_
  refine r_aldz X K hw rfl hp.1 d_M_state_28 ?_
  have hp := hp.2
  refine lv_if_eq (tgt := 36) X.1 X.2.1 d_M_state_29 (by decide) (fun g => ?_) (fun g => ?_)
  · rw [if_pos g] at hρ
    have hp := hp.1 g
    refine lv_iconst (v := (0 : Int32)) X.1 X.2.1 d_M_state_36 (by decide) ?_
    exact w_M_state_37 fz x1 y0 (0 : Int32) h ρ hρ hp X K hr hk hl hw
  · rw [if_neg g] at hρ
    have hp := hp.2 g
    refine lv_iconst (v := (2 : Int32)) X.1 X.2.1 d_M_state_32 (by decide) ?_
    refine lv_goto (tgt := 37) X.1 X.2.1 d_M_state_33 (by decide) ?_
    exact w_M_state_37 fz x1 y0 (2 : Int32) h ρ hρ hp X K hr hk hl hw
set_option maxHeartbeats 4000000 in
set_option maxRecDepth 100000 in
theorem w_M_state (fz : Nat) (x1 : Int32) (h : HH) (ρ : Int32) (hρ : B_M_state fz x1 h = ρ) (hp : P_M_state fz x1 h) (X : CallFix p m c b_M_state 3 s args TB R_M) (K : KK D cI cZ s) (hr : meth.sig.returnType = (some .int)) (hk : meth.locks = false) {ls : Array Slot} {H : Heap} {locs : List Loc} (hl : Lc ls 3 [some (.ref (ad 27)), some (.int x1), none]) (hw : Hw D cI cZ base ad s shape h H locs) : W p l e (rmD 1 20) s m args below meth c H locs 0 0 (MQ below (Qw D cI cZ base ad (pI h ρ)) args s 0 0 (fun q => base ≤ q)) (F0 m 0 ls []) := by
  unfold B_M_state at hρ
  unfold P_M_state at hp
  refine lv_iload_n X.1 X.2.1 d_M_state_0 rfl (hl.at 1 rfl) ?_
  refine r_callS (rest := []) X K hw hl.1 mf_M_117 (c_M_isNode l D cI cZ base ad fz x1 h hp.1) (by decide) ⟨Nat.le_refl _, Nat.le_refl _⟩ rfl rfl (Nat.le_of_ble_eq_true rfl) d_M_state_1 (fun v h' H locs q hw => ?_)
  obtain ⟨rfl, rfl⟩ := q
  have hp := hp.2
  refine lv_if_ne (tgt := 9) X.1 X.2.1 d_M_state_4 (by decide) (fun g => ?_) (fun g => ?_)
  · rw [if_neg g] at hρ
    have hp := hp.2 g
    refine lv_aload_n X.1 X.2.1 d_M_state_9 rfl (hl.at 0 rfl) ?_
    refine r_getr (j := 42) X K hw fg_M_57 rfl rfl d_M_state_10 ?_
    refine lv_iload_n X.1 X.2.1 d_M_state_13 rfl (hl.at 1 rfl) ?_
    refine r_aldz X K hw rfl hp.1 d_M_state_14 ?_
    have hp := hp.2
    refine lv_if_eq (tgt := 22) X.1 X.2.1 d_M_state_15 (by decide) (fun g => ?_) (fun g => ?_)
    · rw [if_pos g] at hρ
      have hp := hp.1 g
      refine lv_iconst (v := (0 : Int32)) X.1 X.2.1 d_M_state_22 (by decide) ?_
      exact w_M_state_23 fz x1 (0 : Int32) h ρ hρ hp X K hr hk hl hw
    · rw [if_neg g] at hρ
      have hp := hp.2 g
      refine lv_iconst (v := (1 : Int32)) X.1 X.2.1 d_M_state_18 (by decide) ?_
      refine lv_goto (tgt := 23) X.1 X.2.1 d_M_state_19 (by decide) ?_
      exact w_M_state_23 fz x1 (1 : Int32) h ρ hρ hp X K hr hk hl hw
  · rw [if_pos g] at hρ
    have hp := hp.1 g
    refine lv_iconst (v := (-1 : Int32)) X.1 X.2.1 d_M_state_7 (by decide) ?_
    exact r_iret X hr hk hw ⟨congrArg (fun z => some (Value.int z)) hρ, rfl⟩ d_M_state_8
set_option maxRecDepth 100000 in
theorem c_M_state (l : Launch) (D : va_G) (cI cZ : ClassId) (base : Nat) (ad : Nat → Nat) (fz : Nat) (x1 : Int32) (h : HH) (hp : P_M_state fz x1 h) : Ct l D cI cZ base ad y_M_state b_M_state 3 (some .int) 1 20 [.ref (ad 27), .int x1] h (pI h (B_M_state fz x1 h)) := by
  refine Ct.of (by decide) (Nat.le_of_ble_eq_true rfl) (cat_ok rfl) ?_
  intro p e s m args below meth c ls X K hr hk hl hw
  exact w_M_state fz x1 h _ rfl hp X K hr hk hl hw
end WALK
