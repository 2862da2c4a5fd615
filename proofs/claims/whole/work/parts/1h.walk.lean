section WALK
variable {p : Program} {l : Launch} {e : Env} {s : State} {m : MethodId} {args : Array Value} {below : List Frame} {meth : Method} {c : Code} {D : va_G} {cI cZ : ClassId} {base : Nat} {ad : Nat → Nat} {R : Room} {Q : State → Prop} {cells slots : Nat}
set_option maxHeartbeats 4000000 in
set_option maxRecDepth 100000 in
theorem w_M_deliver_59 (X : CallFix p m c b_M_deliver 7 s args TB R_M) (K : KK D cI cZ s) (hr : meth.sig.returnType = (some .int)) (hk : meth.locks = false) (fz : Nat) : ∀ (fu : Nat) (x1 : Int32) (x2 : Int32) (x3 : Int32) (x4 : Int32) (x5 : Int32) (x6 : Int32) (h : HH) (ρ : Int32 × HH) (_ : B_M_deliver_59 fz fu x1 x2 x3 x4 x5 x6 h = ρ) (_ : P_M_deliver_59 fz fu x1 x2 x3 x4 x5 x6 h) {ls : Array Slot} {H : Heap} {locs : List Loc} (_ : Lc ls 7 [some (.ref (ad 27)), some (.int x1), some (.int x2), some (.int x3), some (.int x4), some (.int x5), some (.int x6)]) (_ : Hw D cI cZ base ad s shape h H locs), W p l e (rmD 3 71) s m args below meth c H locs 0 0 (MQ below (Qw D cI cZ base ad (pIH ρ)) args s 0 0 (fun q => base ≤ q)) (F0 m 59 ls []) := by
  intro fu
  induction fu with
  | zero =>
    intro x1 x2 x3 x4 x5 x6 h ρ hρ hp ls H locs hl hw
    exact hp.elim
  | succ fu ih =>
    intro x1 x2 x3 x4 x5 x6 h ρ hρ hp ls H locs hl hw
    rw [B_M_deliver_59] at hρ
    rw [P_M_deliver_59] at hp
    refine lv_iload X.1 X.2.1 d_M_deliver_59 (hl.at 6 rfl) ?_
    refine lv_iload_n X.1 X.2.1 d_M_deliver_61 rfl (hl.at 2 rfl) ?_
    refine lv_aload_n X.1 X.2.1 d_M_deliver_62 rfl (hl.at 0 rfl) ?_
    refine r_getr (j := 51) X K hw fg_M_84 rfl rfl d_M_deliver_63 ?_
    refine lv_iload_n X.1 X.2.1 d_M_deliver_66 rfl (hl.at 1 rfl) ?_
    refine r_ald X K hw rfl hp.1 d_M_deliver_67 ?_
    have hp := hp.2
    refine lv_iadd X.1 X.2.1 d_M_deliver_68 ?_
    refine lv_icmp_ge (tgt := 126) X.1 X.2.1 d_M_deliver_69 (by decide) (fun g => ?_) (fun g => ?_)
    · rw [if_pos g] at hρ
      have hp := hp.1 g
      refine lv_aload_n X.1 X.2.1 d_M_deliver_126 rfl (hl.at 0 rfl) ?_
      refine lv_iconst (v := (1 : Int32)) X.1 X.2.1 d_M_deliver_127 (by decide) ?_
      refine lv_iload_n X.1 X.2.1 d_M_deliver_128 rfl (hl.at 1 rfl) ?_
      refine lv_isub X.1 X.2.1 d_M_deliver_129 ?_
      refine lv_iload_n X.1 X.2.1 d_M_deliver_130 rfl (hl.at 3 rfl) ?_
      refine lv_iload X.1 X.2.1 d_M_deliver_131 (hl.at 4 rfl) ?_
      refine lv_iload X.1 X.2.1 d_M_deliver_133 (hl.at 5 rfl) ?_
      refine r_callV (rest := []) X K hw hl.1 mf_M_133 rfl rfl rfl (c_M_arrive l D cI cZ base ad fz ((1 : Int32) - x1) x3 x4 x5 h hp.1) (by decide) ⟨Nat.le_refl _, Nat.le_refl _⟩ rfl rfl (Nat.le_of_ble_eq_true rfl) d_M_deliver_135 (fun v h' H locs q hw => ?_)
      obtain ⟨rfl, rfl⟩ := q
      have hp := hp.2
      refine lv_iload_n X.1 X.2.1 d_M_deliver_138 rfl (hl.at 3 rfl) ?_
      exact r_iret X hr hk hw ⟨congrArg (fun z => some (Value.int z.1)) hρ, (congrArg Prod.snd hρ).symm⟩ d_M_deliver_139
    · rw [if_neg g] at hρ
      have hp := hp.2 g
      refine lv_aload_n X.1 X.2.1 d_M_deliver_72 rfl (hl.at 0 rfl) ?_
      refine r_getr (j := 48) X K hw fg_M_75 rfl rfl d_M_deliver_73 ?_
      refine lv_iload X.1 X.2.1 d_M_deliver_76 (hl.at 6 rfl) ?_
      refine lv_aload_n X.1 X.2.1 d_M_deliver_78 rfl (hl.at 0 rfl) ?_
      refine r_getr (j := 48) X K hw fg_M_75 rfl rfl d_M_deliver_79 ?_
      refine lv_iload X.1 X.2.1 d_M_deliver_82 (hl.at 6 rfl) ?_
      refine lv_iconst (v := (1 : Int32)) X.1 X.2.1 d_M_deliver_84 (by decide) ?_
      refine lv_iadd X.1 X.2.1 d_M_deliver_85 ?_
      refine r_ald X K hw rfl hp.1 d_M_deliver_86 ?_
      have hp := hp.2
      refine r_ast X K hw rfl hp.1 d_M_deliver_87 (fun H locs hw => ?_)
      have hp := hp.2
      refine lv_aload_n X.1 X.2.1 d_M_deliver_88 rfl (hl.at 0 rfl) ?_
      refine r_getr (j := 49) X K hw fg_M_78 rfl rfl d_M_deliver_89 ?_
      refine lv_iload X.1 X.2.1 d_M_deliver_92 (hl.at 6 rfl) ?_
      refine lv_aload_n X.1 X.2.1 d_M_deliver_94 rfl (hl.at 0 rfl) ?_
      refine r_getr (j := 49) X K hw fg_M_78 rfl rfl d_M_deliver_95 ?_
      refine lv_iload X.1 X.2.1 d_M_deliver_98 (hl.at 6 rfl) ?_
      refine lv_iconst (v := (1 : Int32)) X.1 X.2.1 d_M_deliver_100 (by decide) ?_
      refine lv_iadd X.1 X.2.1 d_M_deliver_101 ?_
      refine r_ald X K hw rfl hp.1 d_M_deliver_102 ?_
      have hp := hp.2
      refine r_ast X K hw rfl hp.1 d_M_deliver_103 (fun H locs hw => ?_)
      have hp := hp.2
      refine lv_aload_n X.1 X.2.1 d_M_deliver_104 rfl (hl.at 0 rfl) ?_
      refine r_getr (j := 50) X K hw fg_M_81 rfl rfl d_M_deliver_105 ?_
      refine lv_iload X.1 X.2.1 d_M_deliver_108 (hl.at 6 rfl) ?_
      refine lv_aload_n X.1 X.2.1 d_M_deliver_110 rfl (hl.at 0 rfl) ?_
      refine r_getr (j := 50) X K hw fg_M_81 rfl rfl d_M_deliver_111 ?_
      refine lv_iload X.1 X.2.1 d_M_deliver_114 (hl.at 6 rfl) ?_
      refine lv_iconst (v := (1 : Int32)) X.1 X.2.1 d_M_deliver_116 (by decide) ?_
      refine lv_iadd X.1 X.2.1 d_M_deliver_117 ?_
      refine r_ald X K hw rfl hp.1 d_M_deliver_118 ?_
      have hp := hp.2
      refine r_ast X K hw rfl hp.1 d_M_deliver_119 (fun H locs hw => ?_)
      have hp := hp.2
      refine lv_iincL X.1 X.2.1 hl (v := (x6 + 1)) d_M_deliver_120 rfl (congrArg (fun z => x6 + z) (by decide)) (by decide) (fun ls hl => ?_)
      have hl : Lc ls 7 [some (.ref (ad 27)), some (.int x1), some (.int x2), some (.int x3), some (.int x4), some (.int x5), some (.int (x6 + 1))] := hl
      refine lv_goto (tgt := 59) X.1 X.2.1 d_M_deliver_123 (by decide) ?_
      exact ih x1 x2 x3 x4 x5 (x6 + 1) (u2 (u2 (u2 h 48 (ix x6) (h 48 (ix (x6 + (1 : Int32))))) 49 (ix x6) ((u2 h 48 (ix x6) (h 48 (ix (x6 + (1 : Int32))))) 49 (ix (x6 + (1 : Int32))))) 50 (ix x6) ((u2 (u2 h 48 (ix x6) (h 48 (ix (x6 + (1 : Int32))))) 49 (ix x6) ((u2 h 48 (ix x6) (h 48 (ix (x6 + (1 : Int32))))) 49 (ix (x6 + (1 : Int32))))) 50 (ix (x6 + (1 : Int32))))) ρ hρ hp hl hw
set_option maxHeartbeats 4000000 in
set_option maxRecDepth 100000 in
theorem w_M_deliver_56 (fz : Nat) (x1 : Int32) (x2 : Int32) (x3 : Int32) (x4 : Int32) (x5 : Int32) (h : HH) (ρ : Int32 × HH) (hρ : B_M_deliver_56 fz x1 x2 x3 x4 x5 h = ρ) (hp : P_M_deliver_56 fz x1 x2 x3 x4 x5 h) (X : CallFix p m c b_M_deliver 7 s args TB R_M) (K : KK D cI cZ s) (hr : meth.sig.returnType = (some .int)) (hk : meth.locks = false) {ls : Array Slot} {H : Heap} {locs : List Loc} (hl : Lc ls 7 [some (.ref (ad 27)), some (.int x1), some (.int x2), some (.int x3), some (.int x4), some (.int x5), none]) (hw : Hw D cI cZ base ad s shape h H locs) : W p l e (rmD 3 71) s m args below meth c H locs 0 0 (MQ below (Qw D cI cZ base ad (pIH ρ)) args s 0 0 (fun q => base ≤ q)) (F0 m 56 ls []) := by
  unfold B_M_deliver_56 at hρ
  unfold P_M_deliver_56 at hp
  refine lv_iload_n X.1 X.2.1 d_M_deliver_56 rfl (hl.at 2 rfl) ?_
  refine r_istore X hl d_M_deliver_57 (by decide) (fun ls hl => ?_)
  have hl : Lc ls 7 [some (.ref (ad 27)), some (.int x1), some (.int x2), some (.int x3), some (.int x4), some (.int x5), some (.int x2)] := hl
  exact w_M_deliver_59 X K hr hk fz fz x1 x2 x3 x4 x5 x2 h ρ hρ hp hl hw
set_option maxHeartbeats 4000000 in
set_option maxRecDepth 100000 in
theorem w_M_deliver (fz : Nat) (x1 : Int32) (h : HH) (ρ : Int32 × HH) (hρ : B_M_deliver fz x1 h = ρ) (hp : P_M_deliver fz x1 h) (X : CallFix p m c b_M_deliver 7 s args TB R_M) (K : KK D cI cZ s) (hr : meth.sig.returnType = (some .int)) (hk : meth.locks = false) {ls : Array Slot} {H : Heap} {locs : List Loc} (hl : Lc ls 7 [some (.ref (ad 27)), some (.int x1), none, none, none, none, none]) (hw : Hw D cI cZ base ad s shape h H locs) : W p l e (rmD 3 71) s m args below meth c H locs 0 0 (MQ below (Qw D cI cZ base ad (pIH ρ)) args s 0 0 (fun q => base ≤ q)) (F0 m 0 ls []) := by
  unfold B_M_deliver at hρ
  unfold P_M_deliver at hp
  refine lv_iload_n X.1 X.2.1 d_M_deliver_0 rfl (hl.at 1 rfl) ?_
  refine r_callS (rest := []) X K hw hl.1 mf_M_117 (c_M_isNode l D cI cZ base ad fz x1 h hp.1) (by decide) ⟨Nat.le_refl _, Nat.le_refl _⟩ rfl rfl (Nat.le_of_ble_eq_true rfl) d_M_deliver_1 (fun v h' H locs q hw => ?_)
  obtain ⟨rfl, rfl⟩ := q
  have hp := hp.2
  refine lv_if_eq (tgt := 16) X.1 X.2.1 d_M_deliver_4 (by decide) (fun g => ?_) (fun g => ?_)
  · rw [if_pos g] at hρ
    have hp := hp.1 g
    refine lv_iconst (v := (0 : Int32)) X.1 X.2.1 d_M_deliver_16 (by decide) ?_
    exact r_iret X hr hk hw ⟨congrArg (fun z => some (Value.int z.1)) hρ, (congrArg Prod.snd hρ).symm⟩ d_M_deliver_17
  · rw [if_neg g] at hρ
    have hp := hp.2 g
    refine lv_aload_n X.1 X.2.1 d_M_deliver_7 rfl (hl.at 0 rfl) ?_
    refine r_getr (j := 51) X K hw fg_M_84 rfl rfl d_M_deliver_8 ?_
    refine lv_iload_n X.1 X.2.1 d_M_deliver_11 rfl (hl.at 1 rfl) ?_
    refine r_ald X K hw rfl hp.1 d_M_deliver_12 ?_
    have hp := hp.2
    refine lv_if_ne (tgt := 18) X.1 X.2.1 d_M_deliver_13 (by decide) (fun g => ?_) (fun g => ?_)
    · rw [if_neg g] at hρ
      have hp := hp.2 g
      refine lv_bipush (v := (64 : Int32)) X.1 X.2.1 d_M_deliver_18 (by decide) ?_
      refine lv_iload_n X.1 X.2.1 d_M_deliver_20 rfl (hl.at 1 rfl) ?_
      refine lv_imul X.1 X.2.1 d_M_deliver_21 ?_
      refine r_istore_n X hl d_M_deliver_22 rfl (by decide) (fun ls hl => ?_)
      have hl : Lc ls 7 [some (.ref (ad 27)), some (.int x1), some (.int ((64 : Int32) * x1)), none, none, none, none] := hl
      refine lv_aload_n X.1 X.2.1 d_M_deliver_23 rfl (hl.at 0 rfl) ?_
      refine r_getr (j := 48) X K hw fg_M_75 rfl rfl d_M_deliver_24 ?_
      refine lv_iload_n X.1 X.2.1 d_M_deliver_27 rfl (hl.at 2 rfl) ?_
      refine r_ald X K hw rfl hp.1 d_M_deliver_28 ?_
      have hp := hp.2
      refine r_istore_n X hl d_M_deliver_29 rfl (by decide) (fun ls hl => ?_)
      have hl : Lc ls 7 [some (.ref (ad 27)), some (.int x1), some (.int ((64 : Int32) * x1)), some (.int (h 48 (ix ((64 : Int32) * x1)))), none, none, none] := hl
      refine lv_aload_n X.1 X.2.1 d_M_deliver_30 rfl (hl.at 0 rfl) ?_
      refine r_getr (j := 49) X K hw fg_M_78 rfl rfl d_M_deliver_31 ?_
      refine lv_iload_n X.1 X.2.1 d_M_deliver_34 rfl (hl.at 2 rfl) ?_
      refine r_ald X K hw rfl hp.1 d_M_deliver_35 ?_
      have hp := hp.2
      refine r_istore X hl d_M_deliver_36 (by decide) (fun ls hl => ?_)
      have hl : Lc ls 7 [some (.ref (ad 27)), some (.int x1), some (.int ((64 : Int32) * x1)), some (.int (h 48 (ix ((64 : Int32) * x1)))), some (.int (h 49 (ix ((64 : Int32) * x1)))), none, none] := hl
      refine lv_aload_n X.1 X.2.1 d_M_deliver_38 rfl (hl.at 0 rfl) ?_
      refine r_getr (j := 50) X K hw fg_M_81 rfl rfl d_M_deliver_39 ?_
      refine lv_iload_n X.1 X.2.1 d_M_deliver_42 rfl (hl.at 2 rfl) ?_
      refine r_ald X K hw rfl hp.1 d_M_deliver_43 ?_
      have hp := hp.2
      refine r_istore X hl d_M_deliver_44 (by decide) (fun ls hl => ?_)
      have hl : Lc ls 7 [some (.ref (ad 27)), some (.int x1), some (.int ((64 : Int32) * x1)), some (.int (h 48 (ix ((64 : Int32) * x1)))), some (.int (h 49 (ix ((64 : Int32) * x1)))), some (.int (h 50 (ix ((64 : Int32) * x1)))), none] := hl
      refine lv_aload_n X.1 X.2.1 d_M_deliver_46 rfl (hl.at 0 rfl) ?_
      refine r_getr (j := 51) X K hw fg_M_84 rfl rfl d_M_deliver_47 ?_
      refine lv_iload_n X.1 X.2.1 d_M_deliver_50 rfl (hl.at 1 rfl) ?_
      refine lv_dup2_11 X.1 X.2.1 d_M_deliver_51 rfl rfl ?_
      refine r_ald X K hw rfl hp.1 d_M_deliver_52 ?_
      have hp := hp.2
      refine lv_iconst (v := (1 : Int32)) X.1 X.2.1 d_M_deliver_53 (by decide) ?_
      refine lv_isub X.1 X.2.1 d_M_deliver_54 ?_
      refine r_ast X K hw rfl hp.1 d_M_deliver_55 (fun H locs hw => ?_)
      have hp := hp.2
      exact w_M_deliver_56 fz x1 ((64 : Int32) * x1) (h 48 (ix ((64 : Int32) * x1))) (h 49 (ix ((64 : Int32) * x1))) (h 50 (ix ((64 : Int32) * x1))) (u2 h 51 (ix x1) ((h 51 (ix x1)) - (1 : Int32))) ρ hρ hp X K hr hk hl hw
    · rw [if_pos g] at hρ
      have hp := hp.1 g
      refine lv_iconst (v := (0 : Int32)) X.1 X.2.1 d_M_deliver_16 (by decide) ?_
      exact r_iret X hr hk hw ⟨congrArg (fun z => some (Value.int z.1)) hρ, (congrArg Prod.snd hρ).symm⟩ d_M_deliver_17
set_option maxRecDepth 100000 in
theorem c_M_deliver (l : Launch) (D : va_G) (cI cZ : ClassId) (base : Nat) (ad : Nat → Nat) (fz : Nat) (x1 : Int32) (h : HH) (hp : P_M_deliver fz x1 h) : Ct l D cI cZ base ad y_M_deliver b_M_deliver 7 (some .int) 3 71 [.ref (ad 27), .int x1] h (pIH (B_M_deliver fz x1 h)) := by
  refine Ct.of (by decide) (Nat.le_of_ble_eq_true rfl) (cat_ok rfl) ?_
  intro p e s m args below meth c ls X K hr hk hl hw
  exact w_M_deliver fz x1 h _ rfl hp X K hr hk hl hw
set_option maxHeartbeats 4000000 in
set_option maxRecDepth 100000 in
theorem w_M_store_114 (fz : Nat) (x1 : Int32) (x5 : Int32) (h : HH) (ρ : Int32 × HH) (hρ : B_M_store_114 fz x1 x5 h = ρ) (hp : P_M_store_114 fz x1 x5 h) (X : CallFix p m c b_M_store 6 s args TB R_M) (K : KK D cI cZ s) (hr : meth.sig.returnType = (some .int)) (hk : meth.locks = false) {ls : Array Slot} {H : Heap} {locs : List Loc} (hl : Lc ls 6 [some (.ref (ad 27)), some (.int x1), none, none, none, some (.int x5)]) (hw : Hw D cI cZ base ad s shape h H locs) : W p l e (rmD 1 25) s m args below meth c H locs 0 0 (MQ below (Qw D cI cZ base ad (pIH ρ)) args s 0 0 (fun q => base ≤ q)) (F0 m 114 ls []) := by
  unfold B_M_store_114 at hρ
  unfold P_M_store_114 at hp
  refine lv_aload_n X.1 X.2.1 d_M_store_114 rfl (hl.at 0 rfl) ?_
  refine lv_iload_n X.1 X.2.1 d_M_store_115 rfl (hl.at 1 rfl) ?_
  refine lv_iconst (v := (2 : Int32)) X.1 X.2.1 d_M_store_116 (by decide) ?_
  refine lv_iload X.1 X.2.1 d_M_store_117 (hl.at 5 rfl) ?_
  refine lv_iconst (v := (0 : Int32)) X.1 X.2.1 d_M_store_119 (by decide) ?_
  refine r_callV (rest := []) X K hw hl.1 mf_M_105 rfl rfl rfl (c_M_send l D cI cZ base ad fz x1 (2 : Int32) x5 (0 : Int32) h hp.1) (by decide) ⟨Nat.le_refl _, Nat.le_refl _⟩ rfl rfl (Nat.le_of_ble_eq_true rfl) d_M_store_120 (fun v h' H locs q hw => ?_)
  obtain ⟨rfl, rfl⟩ := q
  have hp := hp.2
  refine lv_iload X.1 X.2.1 d_M_store_123 (hl.at 5 rfl) ?_
  exact r_iret X hr hk hw ⟨congrArg (fun z => some (Value.int z.1)) hρ, (congrArg Prod.snd hρ).symm⟩ d_M_store_125
set_option maxHeartbeats 4000000 in
set_option maxRecDepth 100000 in
theorem w_M_store_90 (fz : Nat) (x1 : Int32) (x5 : Int32) (h : HH) (ρ : Int32 × HH) (hρ : B_M_store_90 fz x1 x5 h = ρ) (hp : P_M_store_90 fz x1 x5 h) (X : CallFix p m c b_M_store 6 s args TB R_M) (K : KK D cI cZ s) (hr : meth.sig.returnType = (some .int)) (hk : meth.locks = false) {ls : Array Slot} {H : Heap} {locs : List Loc} (hl : Lc ls 6 [some (.ref (ad 27)), some (.int x1), none, none, none, some (.int x5)]) (hw : Hw D cI cZ base ad s shape h H locs) : W p l e (rmD 1 25) s m args below meth c H locs 0 0 (MQ below (Qw D cI cZ base ad (pIH ρ)) args s 0 0 (fun q => base ≤ q)) (F0 m 90 ls []) := by
  unfold B_M_store_90 at hρ
  unfold P_M_store_90 at hp
  refine lv_aload_n X.1 X.2.1 d_M_store_90 rfl (hl.at 0 rfl) ?_
  refine r_getr (j := 34) X K hw fg_M_29 rfl rfl d_M_store_91 ?_
  refine lv_bipush (v := (32 : Int32)) X.1 X.2.1 d_M_store_94 (by decide) ?_
  refine lv_iload_n X.1 X.2.1 d_M_store_96 rfl (hl.at 1 rfl) ?_
  refine lv_imul X.1 X.2.1 d_M_store_97 ?_
  refine lv_aload_n X.1 X.2.1 d_M_store_98 rfl (hl.at 0 rfl) ?_
  refine r_getr (j := 29) X K hw fg_M_13 rfl rfl d_M_store_99 ?_
  refine lv_iload X.1 X.2.1 d_M_store_102 (hl.at 5 rfl) ?_
  refine r_ald X K hw rfl hp.1 d_M_store_104 ?_
  have hp := hp.2
  refine lv_iadd X.1 X.2.1 d_M_store_105 ?_
  refine lv_aload_n X.1 X.2.1 d_M_store_106 rfl (hl.at 0 rfl) ?_
  refine r_getr (j := 30) X K hw fg_M_16 rfl rfl d_M_store_107 ?_
  refine lv_iload X.1 X.2.1 d_M_store_110 (hl.at 5 rfl) ?_
  refine r_ald X K hw rfl hp.1 d_M_store_112 ?_
  have hp := hp.2
  refine r_ast X K hw rfl hp.1 d_M_store_113 (fun H locs hw => ?_)
  have hp := hp.2
  exact w_M_store_114 fz x1 x5 (u2 h 34 (ix (((32 : Int32) * x1) + (h 29 (ix x5)))) (h 30 (ix x5))) ρ hρ hp X K hr hk hl hw
set_option maxHeartbeats 4000000 in
set_option maxRecDepth 100000 in
theorem w_M_store_21 (X : CallFix p m c b_M_store 6 s args TB R_M) (K : KK D cI cZ s) (hr : meth.sig.returnType = (some .int)) (hk : meth.locks = false) (fz : Nat) : ∀ (fu : Nat) (x1 : Int32) (x2 : Int32) (x3 : Int32) (x4 : Int32) (x5 : Int32) (h : HH) (ρ : Int32 × HH) (_ : B_M_store_21 fz fu x1 x2 x3 x4 x5 h = ρ) (_ : P_M_store_21 fz fu x1 x2 x3 x4 x5 h) {ls : Array Slot} {H : Heap} {locs : List Loc} (_ : Lc ls 6 [some (.ref (ad 27)), some (.int x1), some (.int x2), some (.int x3), some (.int x4), some (.int x5)]) (_ : Hw D cI cZ base ad s shape h H locs), W p l e (rmD 1 25) s m args below meth c H locs 0 0 (MQ below (Qw D cI cZ base ad (pIH ρ)) args s 0 0 (fun q => base ≤ q)) (F0 m 21 ls []) := by
  intro fu
  induction fu with
  | zero =>
    intro x1 x2 x3 x4 x5 h ρ hρ hp ls H locs hl hw
    exact hp.elim
  | succ fu ih =>
    intro x1 x2 x3 x4 x5 h ρ hρ hp ls H locs hl hw
    rw [B_M_store_21] at hρ
    rw [P_M_store_21] at hp
    refine lv_iload X.1 X.2.1 d_M_store_21 (hl.at 5 rfl) ?_
    refine lv_aload_n X.1 X.2.1 d_M_store_23 rfl (hl.at 0 rfl) ?_
    refine r_geti X K hw fg_M_87 rfl rfl d_M_store_24 ?_
    refine lv_icmp_gt (tgt := 135) X.1 X.2.1 d_M_store_27 (by decide) (fun g => ?_) (fun g => ?_)
    · rw [if_pos g] at hρ
      have hp := hp.1 g
      refine lv_iconst (v := (0 : Int32)) X.1 X.2.1 d_M_store_135 (by decide) ?_
      exact r_iret X hr hk hw ⟨congrArg (fun z => some (Value.int z.1)) hρ, (congrArg Prod.snd hρ).symm⟩ d_M_store_136
    · rw [if_neg g] at hρ
      have hp := hp.2 g
      refine lv_aload_n X.1 X.2.1 d_M_store_30 rfl (hl.at 0 rfl) ?_
      refine r_getr (j := 33) X K hw fg_M_25 rfl rfl d_M_store_31 ?_
      refine lv_iload X.1 X.2.1 d_M_store_34 (hl.at 5 rfl) ?_
      refine r_aldz X K hw rfl hp.1 d_M_store_36 ?_
      have hp := hp.2
      refine lv_if_eq (tgt := 129) X.1 X.2.1 d_M_store_37 (by decide) (fun g => ?_) (fun g => ?_)
      · rw [if_pos g] at hρ
        have hp := hp.1 g
        refine lv_iincL X.1 X.2.1 hl (v := (x5 + 1)) d_M_store_129 rfl (congrArg (fun z => x5 + z) (by decide)) (by decide) (fun ls hl => ?_)
        have hl : Lc ls 6 [some (.ref (ad 27)), some (.int x1), some (.int x2), some (.int x3), some (.int x4), some (.int (x5 + 1))] := hl
        refine lv_goto (tgt := 21) X.1 X.2.1 d_M_store_132 (by decide) ?_
        exact ih x1 x2 x3 x4 (x5 + 1) h ρ hρ hp hl hw
      · rw [if_neg g] at hρ
        have hp := hp.2 g
        refine lv_aload_n X.1 X.2.1 d_M_store_40 rfl (hl.at 0 rfl) ?_
        refine r_getr (j := 28) X K hw fg_M_7 rfl rfl d_M_store_41 ?_
        refine lv_iload X.1 X.2.1 d_M_store_44 (hl.at 5 rfl) ?_
        refine r_ald X K hw rfl hp.1 d_M_store_46 ?_
        have hp := hp.2
        refine lv_iconst (v := (1 : Int32)) X.1 X.2.1 d_M_store_47 (by decide) ?_
        refine lv_iload_n X.1 X.2.1 d_M_store_48 rfl (hl.at 1 rfl) ?_
        refine lv_isub X.1 X.2.1 d_M_store_49 ?_
        refine lv_icmp_ne (tgt := 129) X.1 X.2.1 d_M_store_50 (by decide) (fun g => ?_) (fun g => ?_)
        · rw [if_neg g] at hρ
          have hp := hp.2 g
          refine lv_iincL X.1 X.2.1 hl (v := (x5 + 1)) d_M_store_129 rfl (congrArg (fun z => x5 + z) (by decide)) (by decide) (fun ls hl => ?_)
          have hl : Lc ls 6 [some (.ref (ad 27)), some (.int x1), some (.int x2), some (.int x3), some (.int x4), some (.int (x5 + 1))] := hl
          refine lv_goto (tgt := 21) X.1 X.2.1 d_M_store_132 (by decide) ?_
          exact ih x1 x2 x3 x4 (x5 + 1) h ρ hρ hp hl hw
        · rw [if_pos g] at hρ
          have hp := hp.1 g
          refine lv_iload_n X.1 X.2.1 d_M_store_53 rfl (hl.at 3 rfl) ?_
          refine lv_if_ne (tgt := 60) X.1 X.2.1 d_M_store_54 (by decide) (fun g => ?_) (fun g => ?_)
          · rw [if_neg g] at hρ
            have hp := hp.2 g
            refine lv_aload_n X.1 X.2.1 d_M_store_60 rfl (hl.at 0 rfl) ?_
            refine r_getr (j := 31) X K hw fg_M_19 rfl rfl d_M_store_61 ?_
            refine lv_iload X.1 X.2.1 d_M_store_64 (hl.at 5 rfl) ?_
            refine r_ald X K hw rfl hp.1 d_M_store_66 ?_
            have hp := hp.2
            refine lv_aload_n X.1 X.2.1 d_M_store_67 rfl (hl.at 0 rfl) ?_
            refine r_getr (j := 31) X K hw fg_M_19 rfl rfl d_M_store_68 ?_
            refine lv_iload_n X.1 X.2.1 d_M_store_71 rfl (hl.at 3 rfl) ?_
            refine r_ald X K hw rfl hp.1 d_M_store_72 ?_
            have hp := hp.2
            refine lv_icmp_ne (tgt := 129) X.1 X.2.1 d_M_store_73 (by decide) (fun g => ?_) (fun g => ?_)
            · rw [if_neg g] at hρ
              have hp := hp.2 g
              refine lv_iincL X.1 X.2.1 hl (v := (x5 + 1)) d_M_store_129 rfl (congrArg (fun z => x5 + z) (by decide)) (by decide) (fun ls hl => ?_)
              have hl : Lc ls 6 [some (.ref (ad 27)), some (.int x1), some (.int x2), some (.int x3), some (.int x4), some (.int (x5 + 1))] := hl
              refine lv_goto (tgt := 21) X.1 X.2.1 d_M_store_132 (by decide) ?_
              exact ih x1 x2 x3 x4 (x5 + 1) h ρ hρ hp hl hw
            · rw [if_pos g] at hρ
              have hp := hp.1 g
              refine lv_iload X.1 X.2.1 d_M_store_76 (hl.at 4 rfl) ?_
              refine lv_iload_n X.1 X.2.1 d_M_store_78 rfl (hl.at 2 rfl) ?_
              refine lv_icmp_ne (tgt := 126) X.1 X.2.1 d_M_store_79 (by decide) (fun g => ?_) (fun g => ?_)
              · rw [if_neg g] at hρ
                have hp := hp.2 g
                refine lv_iincL X.1 X.2.1 hl (v := (x4 + 1)) d_M_store_126 rfl (congrArg (fun z => x4 + z) (by decide)) (by decide) (fun ls hl => ?_)
                have hl : Lc ls 6 [some (.ref (ad 27)), some (.int x1), some (.int x2), some (.int x3), some (.int (x4 + 1)), some (.int x5)] := hl
                refine lv_iincL X.1 X.2.1 hl (v := (x5 + 1)) d_M_store_129 rfl (congrArg (fun z => x5 + z) (by decide)) (by decide) (fun ls hl => ?_)
                have hl : Lc ls 6 [some (.ref (ad 27)), some (.int x1), some (.int x2), some (.int x3), some (.int (x4 + 1)), some (.int (x5 + 1))] := hl
                refine lv_goto (tgt := 21) X.1 X.2.1 d_M_store_132 (by decide) ?_
                exact ih x1 x2 x3 (x4 + 1) (x5 + 1) h ρ hρ hp hl hw
              · rw [if_pos g] at hρ
                have hp := hp.1 g
                refine lv_aload_n X.1 X.2.1 d_M_store_82 rfl (hl.at 0 rfl) ?_
                refine r_getr (j := 33) X K hw fg_M_25 rfl rfl d_M_store_83 ?_
                refine lv_iload X.1 X.2.1 d_M_store_86 (hl.at 5 rfl) ?_
                refine lv_iconst (v := (0 : Int32)) X.1 X.2.1 d_M_store_88 (by decide) ?_
                refine r_astz X K hw rfl hp.1 (by decide) d_M_store_89 (fun H locs hw => ?_)
                have hp := hp.2
                have hl : Lc ls 6 [some (.ref (ad 27)), some (.int x1), none, none, none, some (.int x5)] := hl.mask [true, true, false, false, false, true]
                exact w_M_store_90 fz x1 x5 (u2 h 33 (ix x5) (0 : Int32)) ρ hρ hp X K hr hk hl hw
          · rw [if_pos g] at hρ
            have hp := hp.1 g
            refine lv_iload X.1 X.2.1 d_M_store_57 (hl.at 5 rfl) ?_
            refine r_istore_n X hl d_M_store_59 rfl (by decide) (fun ls hl => ?_)
            have hl : Lc ls 6 [some (.ref (ad 27)), some (.int x1), some (.int x2), some (.int x5), some (.int x4), some (.int x5)] := hl
            refine lv_aload_n X.1 X.2.1 d_M_store_60 rfl (hl.at 0 rfl) ?_
            refine r_getr (j := 31) X K hw fg_M_19 rfl rfl d_M_store_61 ?_
            refine lv_iload X.1 X.2.1 d_M_store_64 (hl.at 5 rfl) ?_
            refine r_ald X K hw rfl hp.1 d_M_store_66 ?_
            have hp := hp.2
            refine lv_aload_n X.1 X.2.1 d_M_store_67 rfl (hl.at 0 rfl) ?_
            refine r_getr (j := 31) X K hw fg_M_19 rfl rfl d_M_store_68 ?_
            refine lv_iload_n X.1 X.2.1 d_M_store_71 rfl (hl.at 3 rfl) ?_
            refine r_ald X K hw rfl hp.1 d_M_store_72 ?_
            have hp := hp.2
            refine lv_icmp_ne (tgt := 129) X.1 X.2.1 d_M_store_73 (by decide) (fun g => ?_) (fun g => ?_)
            · rw [if_neg g] at hρ
              have hp := hp.2 g
              refine lv_iincL X.1 X.2.1 hl (v := (x5 + 1)) d_M_store_129 rfl (congrArg (fun z => x5 + z) (by decide)) (by decide) (fun ls hl => ?_)
              have hl : Lc ls 6 [some (.ref (ad 27)), some (.int x1), some (.int x2), some (.int x5), some (.int x4), some (.int (x5 + 1))] := hl
              refine lv_goto (tgt := 21) X.1 X.2.1 d_M_store_132 (by decide) ?_
              exact ih x1 x2 x5 x4 (x5 + 1) h ρ hρ hp hl hw
            · rw [if_pos g] at hρ
              have hp := hp.1 g
              refine lv_iload X.1 X.2.1 d_M_store_76 (hl.at 4 rfl) ?_
              refine lv_iload_n X.1 X.2.1 d_M_store_78 rfl (hl.at 2 rfl) ?_
              refine lv_icmp_ne (tgt := 126) X.1 X.2.1 d_M_store_79 (by decide) (fun g => ?_) (fun g => ?_)
              · rw [if_neg g] at hρ
                have hp := hp.2 g
                refine lv_iincL X.1 X.2.1 hl (v := (x4 + 1)) d_M_store_126 rfl (congrArg (fun z => x4 + z) (by decide)) (by decide) (fun ls hl => ?_)
                have hl : Lc ls 6 [some (.ref (ad 27)), some (.int x1), some (.int x2), some (.int x5), some (.int (x4 + 1)), some (.int x5)] := hl
                refine lv_iincL X.1 X.2.1 hl (v := (x5 + 1)) d_M_store_129 rfl (congrArg (fun z => x5 + z) (by decide)) (by decide) (fun ls hl => ?_)
                have hl : Lc ls 6 [some (.ref (ad 27)), some (.int x1), some (.int x2), some (.int x5), some (.int (x4 + 1)), some (.int (x5 + 1))] := hl
                refine lv_goto (tgt := 21) X.1 X.2.1 d_M_store_132 (by decide) ?_
                exact ih x1 x2 x5 (x4 + 1) (x5 + 1) h ρ hρ hp hl hw
              · rw [if_pos g] at hρ
                have hp := hp.1 g
                refine lv_aload_n X.1 X.2.1 d_M_store_82 rfl (hl.at 0 rfl) ?_
                refine r_getr (j := 33) X K hw fg_M_25 rfl rfl d_M_store_83 ?_
                refine lv_iload X.1 X.2.1 d_M_store_86 (hl.at 5 rfl) ?_
                refine lv_iconst (v := (0 : Int32)) X.1 X.2.1 d_M_store_88 (by decide) ?_
                refine r_astz X K hw rfl hp.1 (by decide) d_M_store_89 (fun H locs hw => ?_)
                have hp := hp.2
                have hl : Lc ls 6 [some (.ref (ad 27)), some (.int x1), none, none, none, some (.int x5)] := hl.mask [true, true, false, false, false, true]
                exact w_M_store_90 fz x1 x5 (u2 h 33 (ix x5) (0 : Int32)) ρ hρ hp X K hr hk hl hw
set_option maxHeartbeats 4000000 in
set_option maxRecDepth 100000 in
theorem w_M_store (fz : Nat) (x1 : Int32) (x2 : Int32) (h : HH) (ρ : Int32 × HH) (hρ : B_M_store fz x1 x2 h = ρ) (hp : P_M_store fz x1 x2 h) (X : CallFix p m c b_M_store 6 s args TB R_M) (K : KK D cI cZ s) (hr : meth.sig.returnType = (some .int)) (hk : meth.locks = false) {ls : Array Slot} {H : Heap} {locs : List Loc} (hl : Lc ls 6 [some (.ref (ad 27)), some (.int x1), some (.int x2), none, none, none]) (hw : Hw D cI cZ base ad s shape h H locs) : W p l e (rmD 1 25) s m args below meth c H locs 0 0 (MQ below (Qw D cI cZ base ad (pIH ρ)) args s 0 0 (fun q => base ≤ q)) (F0 m 0 ls []) := by
  unfold B_M_store at hρ
  unfold P_M_store at hp
  refine lv_iload_n X.1 X.2.1 d_M_store_0 rfl (hl.at 1 rfl) ?_
  refine r_callS (rest := []) X K hw hl.1 mf_M_117 (c_M_isNode l D cI cZ base ad fz x1 h hp.1) (by decide) ⟨Nat.le_refl _, Nat.le_refl _⟩ rfl rfl (Nat.le_of_ble_eq_true rfl) d_M_store_1 (fun v h' H locs q hw => ?_)
  obtain ⟨rfl, rfl⟩ := q
  have hp := hp.2
  refine lv_if_eq (tgt := 11) X.1 X.2.1 d_M_store_4 (by decide) (fun g => ?_) (fun g => ?_)
  · rw [if_pos g] at hρ
    have hp := hp.1 g
    refine lv_iconst (v := (0 : Int32)) X.1 X.2.1 d_M_store_11 (by decide) ?_
    exact r_iret X hr hk hw ⟨congrArg (fun z => some (Value.int z.1)) hρ, (congrArg Prod.snd hρ).symm⟩ d_M_store_12
  · rw [if_neg g] at hρ
    have hp := hp.2 g
    refine lv_iload_n X.1 X.2.1 d_M_store_7 rfl (hl.at 2 rfl) ?_
    refine lv_if_ge (tgt := 13) X.1 X.2.1 d_M_store_8 (by decide) (fun g => ?_) (fun g => ?_)
    · rw [if_pos g] at hρ
      have hp := hp.1 g
      refine lv_iconst (v := (0 : Int32)) X.1 X.2.1 d_M_store_13 (by decide) ?_
      refine r_istore_n X hl d_M_store_14 rfl (by decide) (fun ls hl => ?_)
      have hl : Lc ls 6 [some (.ref (ad 27)), some (.int x1), some (.int x2), some (.int (0 : Int32)), none, none] := hl
      refine lv_iconst (v := (0 : Int32)) X.1 X.2.1 d_M_store_15 (by decide) ?_
      refine r_istore X hl d_M_store_16 (by decide) (fun ls hl => ?_)
      have hl : Lc ls 6 [some (.ref (ad 27)), some (.int x1), some (.int x2), some (.int (0 : Int32)), some (.int (0 : Int32)), none] := hl
      refine lv_iconst (v := (1 : Int32)) X.1 X.2.1 d_M_store_18 (by decide) ?_
      refine r_istore X hl d_M_store_19 (by decide) (fun ls hl => ?_)
      have hl : Lc ls 6 [some (.ref (ad 27)), some (.int x1), some (.int x2), some (.int (0 : Int32)), some (.int (0 : Int32)), some (.int (1 : Int32))] := hl
      exact w_M_store_21 X K hr hk fz fz x1 x2 (0 : Int32) (0 : Int32) (1 : Int32) h ρ hρ hp hl hw
    · rw [if_neg g] at hρ
      have hp := hp.2 g
      refine lv_iconst (v := (0 : Int32)) X.1 X.2.1 d_M_store_11 (by decide) ?_
      exact r_iret X hr hk hw ⟨congrArg (fun z => some (Value.int z.1)) hρ, (congrArg Prod.snd hρ).symm⟩ d_M_store_12
set_option maxRecDepth 100000 in
theorem c_M_store (l : Launch) (D : va_G) (cI cZ : ClassId) (base : Nat) (ad : Nat → Nat) (fz : Nat) (x1 : Int32) (x2 : Int32) (h : HH) (hp : P_M_store fz x1 x2 h) : Ct l D cI cZ base ad y_M_store b_M_store 6 (some .int) 1 25 [.ref (ad 27), .int x1, .int x2] h (pIH (B_M_store fz x1 x2 h)) := by
  refine Ct.of (by decide) (Nat.le_of_ble_eq_true rfl) (cat_ok rfl) ?_
  intro p e s m args below meth c ls X K hr hk hl hw
  exact w_M_store fz x1 x2 h _ rfl hp X K hr hk hl hw
set_option maxHeartbeats 4000000 in
set_option maxRecDepth 100000 in
theorem w_M_copy_30 (X : CallFix p m c b_M_copy 3 s args TB R_M) (K : KK D cI cZ s) (hr : meth.sig.returnType = (some .int)) (hk : meth.locks = false) (fz : Nat) : ∀ (fu : Nat) (x1 : Int32) (x2 : Int32) (h : HH) (ρ : Int32 × HH) (_ : B_M_copy_30 fz fu x1 x2 h = ρ) (_ : P_M_copy_30 fz fu x1 x2 h) {ls : Array Slot} {H : Heap} {locs : List Loc} (_ : Lc ls 3 [some (.ref (ad 27)), some (.int x1), some (.int x2)]) (_ : Hw D cI cZ base ad s shape h H locs), W p l e (rmD 2 47) s m args below meth c H locs 0 0 (MQ below (Qw D cI cZ base ad (pIH ρ)) args s 0 0 (fun q => base ≤ q)) (F0 m 30 ls []) := by
  intro fu
  induction fu with
  | zero =>
    intro x1 x2 h ρ hρ hp ls H locs hl hw
    exact hp.elim
  | succ fu ih =>
    intro x1 x2 h ρ hρ hp ls H locs hl hw
    rw [B_M_copy_30] at hρ
    rw [P_M_copy_30] at hp
    refine lv_iload_n X.1 X.2.1 d_M_copy_30 rfl (hl.at 2 rfl) ?_
    refine lv_bipush (v := (32 : Int32)) X.1 X.2.1 d_M_copy_31 (by decide) ?_
    refine lv_icmp_ge (tgt := 95) X.1 X.2.1 d_M_copy_33 (by decide) (fun g => ?_) (fun g => ?_)
    · rw [if_pos g] at hρ
      have hp := hp.1 g
      refine lv_iconst (v := (-1 : Int32)) X.1 X.2.1 d_M_copy_95 (by decide) ?_
      exact r_iret X hr hk hw ⟨congrArg (fun z => some (Value.int z.1)) hρ, (congrArg Prod.snd hρ).symm⟩ d_M_copy_96
    · rw [if_neg g] at hρ
      have hp := hp.2 g
      refine lv_aload_n X.1 X.2.1 d_M_copy_36 rfl (hl.at 0 rfl) ?_
      refine r_getr (j := 35) X K hw fg_M_32 rfl rfl d_M_copy_37 ?_
      refine lv_bipush (v := (32 : Int32)) X.1 X.2.1 d_M_copy_40 (by decide) ?_
      refine lv_iload_n X.1 X.2.1 d_M_copy_42 rfl (hl.at 1 rfl) ?_
      refine lv_imul X.1 X.2.1 d_M_copy_43 ?_
      refine lv_iload_n X.1 X.2.1 d_M_copy_44 rfl (hl.at 2 rfl) ?_
      refine lv_iadd X.1 X.2.1 d_M_copy_45 ?_
      refine r_aldz X K hw rfl hp.1 d_M_copy_46 ?_
      have hp := hp.2
      refine lv_if_eq (tgt := 89) X.1 X.2.1 d_M_copy_47 (by decide) (fun g => ?_) (fun g => ?_)
      · rw [if_pos g] at hρ
        have hp := hp.1 g
        refine lv_iincL X.1 X.2.1 hl (v := (x2 + 1)) d_M_copy_89 rfl (congrArg (fun z => x2 + z) (by decide)) (by decide) (fun ls hl => ?_)
        have hl : Lc ls 3 [some (.ref (ad 27)), some (.int x1), some (.int (x2 + 1))] := hl
        refine lv_goto (tgt := 30) X.1 X.2.1 d_M_copy_92 (by decide) ?_
        exact ih x1 (x2 + 1) h ρ hρ hp hl hw
      · rw [if_neg g] at hρ
        have hp := hp.2 g
        refine lv_aload_n X.1 X.2.1 d_M_copy_50 rfl (hl.at 0 rfl) ?_
        refine lv_iload_n X.1 X.2.1 d_M_copy_51 rfl (hl.at 1 rfl) ?_
        refine lv_iload_n X.1 X.2.1 d_M_copy_52 rfl (hl.at 2 rfl) ?_
        refine r_callV (rest := []) X K hw hl.1 mf_M_139 rfl rfl rfl (c_M_underWay l D cI cZ base ad fz x1 x2 h hp.1) (by decide) ⟨Nat.le_refl _, Nat.le_refl _⟩ rfl rfl (Nat.le_of_ble_eq_true rfl) d_M_copy_53 (fun v h' H locs q hw => ?_)
        obtain ⟨rfl, rfl⟩ := q
        have hp := hp.2
        refine lv_if_ne (tgt := 89) X.1 X.2.1 d_M_copy_56 (by decide) (fun g => ?_) (fun g => ?_)
        · rw [if_neg g] at hρ
          have hp := hp.2 g
          refine lv_iincL X.1 X.2.1 hl (v := (x2 + 1)) d_M_copy_89 rfl (congrArg (fun z => x2 + z) (by decide)) (by decide) (fun ls hl => ?_)
          have hl : Lc ls 3 [some (.ref (ad 27)), some (.int x1), some (.int (x2 + 1))] := hl
          refine lv_goto (tgt := 30) X.1 X.2.1 d_M_copy_92 (by decide) ?_
          exact ih x1 (x2 + 1) h ρ hρ hp hl hw
        · rw [if_pos g] at hρ
          have hp := hp.1 g
          refine lv_aload_n X.1 X.2.1 d_M_copy_59 rfl (hl.at 0 rfl) ?_
          refine lv_iload_n X.1 X.2.1 d_M_copy_60 rfl (hl.at 1 rfl) ?_
          refine lv_iload_n X.1 X.2.1 d_M_copy_61 rfl (hl.at 2 rfl) ?_
          refine lv_iload_n X.1 X.2.1 d_M_copy_62 rfl (hl.at 2 rfl) ?_
          refine r_callV (rest := []) X K hw hl.1 mf_M_90 rfl rfl rfl (c_M_pending l D cI cZ base ad fz x1 x2 x2 h hp.1) (by decide) ⟨Nat.le_refl _, Nat.le_refl _⟩ rfl rfl (Nat.le_of_ble_eq_true rfl) d_M_copy_63 (fun v h' H locs q hw => ?_)
          obtain ⟨rfl, rfl⟩ := q
          have hp := hp.2
          refine lv_if_ne (tgt := 89) X.1 X.2.1 d_M_copy_66 (by decide) (fun g => ?_) (fun g => ?_)
          · rw [if_neg g] at hρ
            have hp := hp.2 g
            refine lv_iincL X.1 X.2.1 hl (v := (x2 + 1)) d_M_copy_89 rfl (congrArg (fun z => x2 + z) (by decide)) (by decide) (fun ls hl => ?_)
            have hl : Lc ls 3 [some (.ref (ad 27)), some (.int x1), some (.int (x2 + 1))] := hl
            refine lv_goto (tgt := 30) X.1 X.2.1 d_M_copy_92 (by decide) ?_
            exact ih x1 (x2 + 1) h ρ hρ hp hl hw
          · rw [if_pos g] at hρ
            have hp := hp.1 g
            refine lv_aload_n X.1 X.2.1 d_M_copy_69 rfl (hl.at 0 rfl) ?_
            refine lv_iload_n X.1 X.2.1 d_M_copy_70 rfl (hl.at 1 rfl) ?_
            refine lv_iconst (v := (3 : Int32)) X.1 X.2.1 d_M_copy_71 (by decide) ?_
            refine lv_iload_n X.1 X.2.1 d_M_copy_72 rfl (hl.at 2 rfl) ?_
            refine lv_aload_n X.1 X.2.1 d_M_copy_73 rfl (hl.at 0 rfl) ?_
            refine r_getr (j := 34) X K hw fg_M_29 rfl rfl d_M_copy_74 ?_
            refine lv_bipush (v := (32 : Int32)) X.1 X.2.1 d_M_copy_77 (by decide) ?_
            refine lv_iload_n X.1 X.2.1 d_M_copy_79 rfl (hl.at 1 rfl) ?_
            refine lv_imul X.1 X.2.1 d_M_copy_80 ?_
            refine lv_iload_n X.1 X.2.1 d_M_copy_81 rfl (hl.at 2 rfl) ?_
            refine lv_iadd X.1 X.2.1 d_M_copy_82 ?_
            refine r_ald X K hw rfl hp.1 d_M_copy_83 ?_
            have hp := hp.2
            refine r_callV (rest := []) X K hw hl.1 mf_M_105 rfl rfl rfl (c_M_send l D cI cZ base ad fz x1 (3 : Int32) x2 (h 34 (ix (((32 : Int32) * x1) + x2))) h hp.1) (by decide) ⟨Nat.le_refl _, Nat.le_refl _⟩ rfl rfl (Nat.le_of_ble_eq_true rfl) d_M_copy_84 (fun v h' H locs q hw => ?_)
            obtain ⟨rfl, rfl⟩ := q
            have hp := hp.2
            refine lv_iload_n X.1 X.2.1 d_M_copy_87 rfl (hl.at 2 rfl) ?_
            exact r_iret X hr hk hw ⟨congrArg (fun z => some (Value.int z.1)) hρ, (congrArg Prod.snd hρ).symm⟩ d_M_copy_88
set_option maxHeartbeats 4000000 in
set_option maxRecDepth 100000 in
theorem w_M_copy (fz : Nat) (x1 : Int32) (h : HH) (ρ : Int32 × HH) (hρ : B_M_copy fz x1 h = ρ) (hp : P_M_copy fz x1 h) (X : CallFix p m c b_M_copy 3 s args TB R_M) (K : KK D cI cZ s) (hr : meth.sig.returnType = (some .int)) (hk : meth.locks = false) {ls : Array Slot} {H : Heap} {locs : List Loc} (hl : Lc ls 3 [some (.ref (ad 27)), some (.int x1), none]) (hw : Hw D cI cZ base ad s shape h H locs) : W p l e (rmD 2 47) s m args below meth c H locs 0 0 (MQ below (Qw D cI cZ base ad (pIH ρ)) args s 0 0 (fun q => base ≤ q)) (F0 m 0 ls []) := by
  unfold B_M_copy at hρ
  unfold P_M_copy at hp
  refine lv_iload_n X.1 X.2.1 d_M_copy_0 rfl (hl.at 1 rfl) ?_
  refine r_callS (rest := []) X K hw hl.1 mf_M_117 (c_M_isNode l D cI cZ base ad fz x1 h hp.1) (by decide) ⟨Nat.le_refl _, Nat.le_refl _⟩ rfl rfl (Nat.le_of_ble_eq_true rfl) d_M_copy_1 (fun v h' H locs q hw => ?_)
  obtain ⟨rfl, rfl⟩ := q
  have hp := hp.2
  refine lv_if_eq (tgt := 26) X.1 X.2.1 d_M_copy_4 (by decide) (fun g => ?_) (fun g => ?_)
  · rw [if_pos g] at hρ
    have hp := hp.1 g
    refine lv_iconst (v := (-1 : Int32)) X.1 X.2.1 d_M_copy_26 (by decide) ?_
    exact r_iret X hr hk hw ⟨congrArg (fun z => some (Value.int z.1)) hρ, (congrArg Prod.snd hρ).symm⟩ d_M_copy_27
  · rw [if_neg g] at hρ
    have hp := hp.2 g
    refine lv_aload_n X.1 X.2.1 d_M_copy_7 rfl (hl.at 0 rfl) ?_
    refine r_getr (j := 44) X K hw fg_M_63 rfl rfl d_M_copy_8 ?_
    refine lv_iload_n X.1 X.2.1 d_M_copy_11 rfl (hl.at 1 rfl) ?_
    refine r_aldz X K hw rfl hp.1 d_M_copy_12 ?_
    have hp := hp.2
    refine lv_if_eq (tgt := 26) X.1 X.2.1 d_M_copy_13 (by decide) (fun g => ?_) (fun g => ?_)
    · rw [if_pos g] at hρ
      have hp := hp.1 g
      refine lv_iconst (v := (-1 : Int32)) X.1 X.2.1 d_M_copy_26 (by decide) ?_
      exact r_iret X hr hk hw ⟨congrArg (fun z => some (Value.int z.1)) hρ, (congrArg Prod.snd hρ).symm⟩ d_M_copy_27
    · rw [if_neg g] at hρ
      have hp := hp.2 g
      refine lv_aload_n X.1 X.2.1 d_M_copy_16 rfl (hl.at 0 rfl) ?_
      refine lv_iload_n X.1 X.2.1 d_M_copy_17 rfl (hl.at 1 rfl) ?_
      refine lv_iconst (v := (-1 : Int32)) X.1 X.2.1 d_M_copy_18 (by decide) ?_
      refine r_callV (rest := []) X K hw hl.1 mf_M_139 rfl rfl rfl (c_M_underWay l D cI cZ base ad fz x1 (-1 : Int32) h hp.1) (by decide) ⟨Nat.le_refl _, Nat.le_refl _⟩ rfl rfl (Nat.le_of_ble_eq_true rfl) d_M_copy_19 (fun v h' H locs q hw => ?_)
      obtain ⟨rfl, rfl⟩ := q
      have hp := hp.2
      refine lv_iconst (v := (4 : Int32)) X.1 X.2.1 d_M_copy_22 (by decide) ?_
      refine lv_icmp_lt (tgt := 28) X.1 X.2.1 d_M_copy_23 (by decide) (fun g => ?_) (fun g => ?_)
      · rw [if_pos g] at hρ
        have hp := hp.1 g
        refine lv_iconst (v := (0 : Int32)) X.1 X.2.1 d_M_copy_28 (by decide) ?_
        refine r_istore_n X hl d_M_copy_29 rfl (by decide) (fun ls hl => ?_)
        have hl : Lc ls 3 [some (.ref (ad 27)), some (.int x1), some (.int (0 : Int32))] := hl
        exact w_M_copy_30 X K hr hk fz fz x1 (0 : Int32) h ρ hρ hp hl hw
      · rw [if_neg g] at hρ
        have hp := hp.2 g
        refine lv_iconst (v := (-1 : Int32)) X.1 X.2.1 d_M_copy_26 (by decide) ?_
        exact r_iret X hr hk hw ⟨congrArg (fun z => some (Value.int z.1)) hρ, (congrArg Prod.snd hρ).symm⟩ d_M_copy_27
set_option maxRecDepth 100000 in
theorem c_M_copy (l : Launch) (D : va_G) (cI cZ : ClassId) (base : Nat) (ad : Nat → Nat) (fz : Nat) (x1 : Int32) (h : HH) (hp : P_M_copy fz x1 h) : Ct l D cI cZ base ad y_M_copy b_M_copy 3 (some .int) 2 47 [.ref (ad 27), .int x1] h (pIH (B_M_copy fz x1 h)) := by
  refine Ct.of (by decide) (Nat.le_of_ble_eq_true rfl) (cat_ok rfl) ?_
  intro p e s m args below meth c ls X K hr hk hl hw
  exact w_M_copy fz x1 h _ rfl hp X K hr hk hl hw
set_option maxHeartbeats 4000000 in
set_option maxRecDepth 100000 in
theorem w_M_chosen_18 (fz : Nat)  (h : HH) (ρ : Int32) (hρ : B_M_chosen_18 fz  h = ρ) (hp : P_M_chosen_18 fz  h) (X : CallFix p m c b_M_chosen 1 s args TB R_M) (K : KK D cI cZ s) (hr : meth.sig.returnType = (some .int)) (hk : meth.locks = false) {ls : Array Slot} {H : Heap} {locs : List Loc} (hl : Lc ls 1 [some (.ref (ad 27))]) (hw : Hw D cI cZ base ad s shape h H locs) : W p l e (rmD 0 0) s m args below meth c H locs 0 0 (MQ below (Qw D cI cZ base ad (pI h ρ)) args s 0 0 (fun q => base ≤ q)) (F0 m 18 ls []) := by
  unfold B_M_chosen_18 at hρ
  unfold P_M_chosen_18 at hp
  refine lv_aload_n X.1 X.2.1 d_M_chosen_18 rfl (hl.at 0 rfl) ?_
  refine r_getr (j := 40) X K hw fg_M_51 rfl rfl d_M_chosen_19 ?_
  refine lv_iconst (v := (0 : Int32)) X.1 X.2.1 d_M_chosen_22 (by decide) ?_
  refine r_aldz X K hw rfl hp.1 d_M_chosen_23 ?_
  have hp := hp.2
  refine lv_if_eq (tgt := 31) X.1 X.2.1 d_M_chosen_24 (by decide) (fun g => ?_) (fun g => ?_)
  · rw [if_pos g] at hρ
    have hp := hp.1 g
    refine lv_iconst (v := (0 : Int32)) X.1 X.2.1 d_M_chosen_31 (by decide) ?_
    exact r_iret X hr hk hw ⟨congrArg (fun z => some (Value.int z)) hρ, rfl⟩ d_M_chosen_32
  · rw [if_neg g] at hρ
    have hp := hp.2 g
    refine lv_iconst (v := (1 : Int32)) X.1 X.2.1 d_M_chosen_27 (by decide) ?_
    refine lv_goto (tgt := 32) X.1 X.2.1 d_M_chosen_28 (by decide) ?_
    exact r_iret X hr hk hw ⟨congrArg (fun z => some (Value.int z)) hρ, rfl⟩ d_M_chosen_32
set_option maxHeartbeats 4000000 in
set_option maxRecDepth 100000 in
theorem w_M_chosen_125 (fz : Nat)  (h : HH) (ρ : Int32) (hρ : B_M_chosen_125 fz  h = ρ) (hp : P_M_chosen_125 fz  h) (X : CallFix p m c b_M_chosen 1 s args TB R_M) (K : KK D cI cZ s) (hr : meth.sig.returnType = (some .int)) (hk : meth.locks = false) {ls : Array Slot} {H : Heap} {locs : List Loc} (hl : Lc ls 1 [some (.ref (ad 27))]) (hw : Hw D cI cZ base ad s shape h H locs) : W p l e (rmD 0 0) s m args below meth c H locs 0 0 (MQ below (Qw D cI cZ base ad (pI h ρ)) args s 0 0 (fun q => base ≤ q)) (F0 m 125 ls []) := by
  unfold B_M_chosen_125 at hρ
  unfold P_M_chosen_125 at hp
  refine lv_aload_n X.1 X.2.1 d_M_chosen_125 rfl (hl.at 0 rfl) ?_
  refine r_getr (j := 43) X K hw fg_M_60 rfl rfl d_M_chosen_126 ?_
  refine lv_iconst (v := (0 : Int32)) X.1 X.2.1 d_M_chosen_129 (by decide) ?_
  refine r_aldz X K hw rfl hp.1 d_M_chosen_130 ?_
  have hp := hp.2
  refine lv_aload_n X.1 X.2.1 d_M_chosen_131 rfl (hl.at 0 rfl) ?_
  refine r_getr (j := 43) X K hw fg_M_60 rfl rfl d_M_chosen_132 ?_
  refine lv_iconst (v := (1 : Int32)) X.1 X.2.1 d_M_chosen_135 (by decide) ?_
  refine r_aldz X K hw rfl hp.1 d_M_chosen_136 ?_
  have hp := hp.2
  refine lv_icmp_eq (tgt := 155) X.1 X.2.1 d_M_chosen_137 (by decide) (fun g => ?_) (fun g => ?_)
  · rw [if_pos g] at hρ
    have hp := hp.1 g
    refine lv_aload_n X.1 X.2.1 d_M_chosen_155 rfl (hl.at 0 rfl) ?_
    refine r_getr (j := 41) X K hw fg_M_54 rfl rfl d_M_chosen_156 ?_
    refine lv_iconst (v := (0 : Int32)) X.1 X.2.1 d_M_chosen_159 (by decide) ?_
    refine r_aldz X K hw rfl hp.1 d_M_chosen_160 ?_
    have hp := hp.2
    refine lv_if_eq (tgt := 168) X.1 X.2.1 d_M_chosen_161 (by decide) (fun g => ?_) (fun g => ?_)
    · rw [if_pos g] at hρ
      have hp := hp.1 g
      refine lv_iconst (v := (1 : Int32)) X.1 X.2.1 d_M_chosen_168 (by decide) ?_
      exact r_iret X hr hk hw ⟨congrArg (fun z => some (Value.int z)) hρ, rfl⟩ d_M_chosen_169
    · rw [if_neg g] at hρ
      have hp := hp.2 g
      refine lv_iconst (v := (0 : Int32)) X.1 X.2.1 d_M_chosen_164 (by decide) ?_
      refine lv_goto (tgt := 169) X.1 X.2.1 d_M_chosen_165 (by decide) ?_
      exact r_iret X hr hk hw ⟨congrArg (fun z => some (Value.int z)) hρ, rfl⟩ d_M_chosen_169
  · rw [if_neg g] at hρ
    have hp := hp.2 g
    refine lv_aload_n X.1 X.2.1 d_M_chosen_140 rfl (hl.at 0 rfl) ?_
    refine r_getr (j := 43) X K hw fg_M_60 rfl rfl d_M_chosen_141 ?_
    refine lv_iconst (v := (0 : Int32)) X.1 X.2.1 d_M_chosen_144 (by decide) ?_
    refine r_aldz X K hw rfl hp.1 d_M_chosen_145 ?_
    have hp := hp.2
    refine lv_if_eq (tgt := 153) X.1 X.2.1 d_M_chosen_146 (by decide) (fun g => ?_) (fun g => ?_)
    · rw [if_pos g] at hρ
      have hp := hp.1 g
      refine lv_iconst (v := (1 : Int32)) X.1 X.2.1 d_M_chosen_153 (by decide) ?_
      exact r_iret X hr hk hw ⟨congrArg (fun z => some (Value.int z)) hρ, rfl⟩ d_M_chosen_154
    · rw [if_neg g] at hρ
      have hp := hp.2 g
      refine lv_iconst (v := (0 : Int32)) X.1 X.2.1 d_M_chosen_149 (by decide) ?_
      refine lv_goto (tgt := 154) X.1 X.2.1 d_M_chosen_150 (by decide) ?_
      exact r_iret X hr hk hw ⟨congrArg (fun z => some (Value.int z)) hρ, rfl⟩ d_M_chosen_154
set_option maxHeartbeats 4000000 in
set_option maxRecDepth 100000 in
theorem w_M_chosen_74 (fz : Nat)  (h : HH) (ρ : Int32) (hρ : B_M_chosen_74 fz  h = ρ) (hp : P_M_chosen_74 fz  h) (X : CallFix p m c b_M_chosen 1 s args TB R_M) (K : KK D cI cZ s) (hr : meth.sig.returnType = (some .int)) (hk : meth.locks = false) {ls : Array Slot} {H : Heap} {locs : List Loc} (hl : Lc ls 1 [some (.ref (ad 27))]) (hw : Hw D cI cZ base ad s shape h H locs) : W p l e (rmD 0 0) s m args below meth c H locs 0 0 (MQ below (Qw D cI cZ base ad (pI h ρ)) args s 0 0 (fun q => base ≤ q)) (F0 m 74 ls []) := by
  unfold B_M_chosen_74 at hρ
  unfold P_M_chosen_74 at hp
  refine lv_aload_n X.1 X.2.1 d_M_chosen_74 rfl (hl.at 0 rfl) ?_
  refine r_getr (j := 39) X K hw fg_M_44 rfl rfl d_M_chosen_75 ?_
  refine lv_iconst (v := (1 : Int32)) X.1 X.2.1 d_M_chosen_78 (by decide) ?_
  refine r_ald X K hw rfl hp.1 d_M_chosen_79 ?_
  have hp := hp.2
  refine lv_if_eq (tgt := 102) X.1 X.2.1 d_M_chosen_80 (by decide) (fun g => ?_) (fun g => ?_)
  · rw [if_pos g] at hρ
    have hp := hp.1 g
    refine lv_bipush (v := (-8 : Int32)) X.1 X.2.1 d_M_chosen_102 (by decide) ?_
    exact r_iret X hr hk hw ⟨congrArg (fun z => some (Value.int z)) hρ, rfl⟩ d_M_chosen_104
  · rw [if_neg g] at hρ
    have hp := hp.2 g
    refine lv_aload_n X.1 X.2.1 d_M_chosen_83 rfl (hl.at 0 rfl) ?_
    refine r_getr (j := 39) X K hw fg_M_44 rfl rfl d_M_chosen_84 ?_
    refine lv_iconst (v := (1 : Int32)) X.1 X.2.1 d_M_chosen_87 (by decide) ?_
    refine r_ald X K hw rfl hp.1 d_M_chosen_88 ?_
    have hp := hp.2
    refine lv_aload_n X.1 X.2.1 d_M_chosen_89 rfl (hl.at 0 rfl) ?_
    refine r_getr (j := 38) X K hw fg_M_41 rfl rfl d_M_chosen_90 ?_
    refine lv_iconst (v := (0 : Int32)) X.1 X.2.1 d_M_chosen_93 (by decide) ?_
    refine r_ald X K hw rfl hp.1 d_M_chosen_94 ?_
    have hp := hp.2
    refine lv_icmp_ne (tgt := 102) X.1 X.2.1 d_M_chosen_95 (by decide) (fun g => ?_) (fun g => ?_)
    · rw [if_neg g] at hρ
      have hp := hp.2 g
      refine lv_bipush (v := (-8 : Int32)) X.1 X.2.1 d_M_chosen_102 (by decide) ?_
      exact r_iret X hr hk hw ⟨congrArg (fun z => some (Value.int z)) hρ, rfl⟩ d_M_chosen_104
    · rw [if_pos g] at hρ
      have hp := hp.1 g
      refine lv_iconst (v := (1 : Int32)) X.1 X.2.1 d_M_chosen_98 (by decide) ?_
      refine lv_goto (tgt := 104) X.1 X.2.1 d_M_chosen_99 (by decide) ?_
      exact r_iret X hr hk hw ⟨congrArg (fun z => some (Value.int z)) hρ, rfl⟩ d_M_chosen_104
set_option maxHeartbeats 4000000 in
set_option maxRecDepth 100000 in
theorem w_M_chosen (fz : Nat)  (h : HH) (ρ : Int32) (hρ : B_M_chosen fz  h = ρ) (hp : P_M_chosen fz  h) (X : CallFix p m c b_M_chosen 1 s args TB R_M) (K : KK D cI cZ s) (hr : meth.sig.returnType = (some .int)) (hk : meth.locks = false) {ls : Array Slot} {H : Heap} {locs : List Loc} (hl : Lc ls 1 [some (.ref (ad 27))]) (hw : Hw D cI cZ base ad s shape h H locs) : W p l e (rmD 0 0) s m args below meth c H locs 0 0 (MQ below (Qw D cI cZ base ad (pI h ρ)) args s 0 0 (fun q => base ≤ q)) (F0 m 0 ls []) := by
  unfold B_M_chosen at hρ
  unfold P_M_chosen at hp
  refine lv_aload_n X.1 X.2.1 d_M_chosen_0 rfl (hl.at 0 rfl) ?_
  refine r_getr (j := 40) X K hw fg_M_51 rfl rfl d_M_chosen_1 ?_
  refine lv_iconst (v := (0 : Int32)) X.1 X.2.1 d_M_chosen_4 (by decide) ?_
  refine r_aldz X K hw rfl hp.1 d_M_chosen_5 ?_
  have hp := hp.2
  refine lv_if_ne (tgt := 18) X.1 X.2.1 d_M_chosen_6 (by decide) (fun g => ?_) (fun g => ?_)
  · rw [if_neg g] at hρ
    have hp := hp.2 g
    exact w_M_chosen_18 fz  h ρ hρ hp X K hr hk hl hw
  · rw [if_pos g] at hρ
    have hp := hp.1 g
    refine lv_aload_n X.1 X.2.1 d_M_chosen_9 rfl (hl.at 0 rfl) ?_
    refine r_getr (j := 40) X K hw fg_M_51 rfl rfl d_M_chosen_10 ?_
    refine lv_iconst (v := (1 : Int32)) X.1 X.2.1 d_M_chosen_13 (by decide) ?_
    refine r_aldz X K hw rfl hp.1 d_M_chosen_14 ?_
    have hp := hp.2
    refine lv_if_eq (tgt := 33) X.1 X.2.1 d_M_chosen_15 (by decide) (fun g => ?_) (fun g => ?_)
    · rw [if_pos g] at hρ
      have hp := hp.1 g
      refine lv_aload_n X.1 X.2.1 d_M_chosen_33 rfl (hl.at 0 rfl) ?_
      refine r_getr (j := 38) X K hw fg_M_41 rfl rfl d_M_chosen_34 ?_
      refine lv_iconst (v := (0 : Int32)) X.1 X.2.1 d_M_chosen_37 (by decide) ?_
      refine r_ald X K hw rfl hp.1 d_M_chosen_38 ?_
      have hp := hp.2
      refine lv_aload_n X.1 X.2.1 d_M_chosen_39 rfl (hl.at 0 rfl) ?_
      refine r_getr (j := 38) X K hw fg_M_41 rfl rfl d_M_chosen_40 ?_
      refine lv_iconst (v := (1 : Int32)) X.1 X.2.1 d_M_chosen_43 (by decide) ?_
      refine r_ald X K hw rfl hp.1 d_M_chosen_44 ?_
      have hp := hp.2
      refine lv_icmp_eq (tgt := 105) X.1 X.2.1 d_M_chosen_45 (by decide) (fun g => ?_) (fun g => ?_)
      · rw [if_pos g] at hρ
        have hp := hp.1 g
        refine lv_aload_n X.1 X.2.1 d_M_chosen_105 rfl (hl.at 0 rfl) ?_
        refine r_getr (j := 41) X K hw fg_M_54 rfl rfl d_M_chosen_106 ?_
        refine lv_iconst (v := (0 : Int32)) X.1 X.2.1 d_M_chosen_109 (by decide) ?_
        refine r_aldz X K hw rfl hp.1 d_M_chosen_110 ?_
        have hp := hp.2
        refine lv_if_ne (tgt := 125) X.1 X.2.1 d_M_chosen_111 (by decide) (fun g => ?_) (fun g => ?_)
        · rw [if_neg g] at hρ
          have hp := hp.2 g
          exact w_M_chosen_125 fz  h ρ hρ hp X K hr hk hl hw
        · rw [if_pos g] at hρ
          have hp := hp.1 g
          refine lv_aload_n X.1 X.2.1 d_M_chosen_114 rfl (hl.at 0 rfl) ?_
          refine r_getr (j := 41) X K hw fg_M_54 rfl rfl d_M_chosen_115 ?_
          refine lv_iconst (v := (1 : Int32)) X.1 X.2.1 d_M_chosen_118 (by decide) ?_
          refine r_aldz X K hw rfl hp.1 d_M_chosen_119 ?_
          have hp := hp.2
          refine lv_if_ne (tgt := 125) X.1 X.2.1 d_M_chosen_120 (by decide) (fun g => ?_) (fun g => ?_)
          · rw [if_neg g] at hρ
            have hp := hp.2 g
            exact w_M_chosen_125 fz  h ρ hρ hp X K hr hk hl hw
          · rw [if_pos g] at hρ
            have hp := hp.1 g
            refine lv_iconst (v := (-1 : Int32)) X.1 X.2.1 d_M_chosen_123 (by decide) ?_
            exact r_iret X hr hk hw ⟨congrArg (fun z => some (Value.int z)) hρ, rfl⟩ d_M_chosen_124
      · rw [if_neg g] at hρ
        have hp := hp.2 g
        refine lv_aload_n X.1 X.2.1 d_M_chosen_48 rfl (hl.at 0 rfl) ?_
        refine r_getr (j := 39) X K hw fg_M_44 rfl rfl d_M_chosen_49 ?_
        refine lv_iconst (v := (0 : Int32)) X.1 X.2.1 d_M_chosen_52 (by decide) ?_
        refine r_ald X K hw rfl hp.1 d_M_chosen_53 ?_
        have hp := hp.2
        refine lv_if_eq (tgt := 74) X.1 X.2.1 d_M_chosen_54 (by decide) (fun g => ?_) (fun g => ?_)
        · rw [if_pos g] at hρ
          have hp := hp.1 g
          exact w_M_chosen_74 fz  h ρ hρ hp X K hr hk hl hw
        · rw [if_neg g] at hρ
          have hp := hp.2 g
          refine lv_aload_n X.1 X.2.1 d_M_chosen_57 rfl (hl.at 0 rfl) ?_
          refine r_getr (j := 39) X K hw fg_M_44 rfl rfl d_M_chosen_58 ?_
          refine lv_iconst (v := (0 : Int32)) X.1 X.2.1 d_M_chosen_61 (by decide) ?_
          refine r_ald X K hw rfl hp.1 d_M_chosen_62 ?_
          have hp := hp.2
          refine lv_aload_n X.1 X.2.1 d_M_chosen_63 rfl (hl.at 0 rfl) ?_
          refine r_getr (j := 38) X K hw fg_M_41 rfl rfl d_M_chosen_64 ?_
          refine lv_iconst (v := (1 : Int32)) X.1 X.2.1 d_M_chosen_67 (by decide) ?_
          refine r_ald X K hw rfl hp.1 d_M_chosen_68 ?_
          have hp := hp.2
          refine lv_icmp_ne (tgt := 74) X.1 X.2.1 d_M_chosen_69 (by decide) (fun g => ?_) (fun g => ?_)
          · rw [if_neg g] at hρ
            have hp := hp.2 g
            exact w_M_chosen_74 fz  h ρ hρ hp X K hr hk hl hw
          · rw [if_pos g] at hρ
            have hp := hp.1 g
            refine lv_iconst (v := (0 : Int32)) X.1 X.2.1 d_M_chosen_72 (by decide) ?_
            exact r_iret X hr hk hw ⟨congrArg (fun z => some (Value.int z)) hρ, rfl⟩ d_M_chosen_73
    · rw [if_neg g] at hρ
      have hp := hp.2 g
      exact w_M_chosen_18 fz  h ρ hρ hp X K hr hk hl hw
set_option maxRecDepth 100000 in
theorem c_M_chosen (l : Launch) (D : va_G) (cI cZ : ClassId) (base : Nat) (ad : Nat → Nat) (fz : Nat)  (h : HH) (hp : P_M_chosen fz  h) : Ct l D cI cZ base ad y_M_chosen b_M_chosen 1 (some .int) 0 0 [.ref (ad 27)] h (pI h (B_M_chosen fz  h)) := by
  refine Ct.of (by decide) (Nat.le_of_ble_eq_true rfl) (cat_ok rfl) ?_
  intro p e s m args below meth c ls X K hr hk hl hw
  exact w_M_chosen fz  h _ rfl hp X K hr hk hl hw
set_option maxHeartbeats 4000000 in
set_option maxRecDepth 100000 in
theorem w_M_connect_232 (fz : Nat) (x1 : Int32) (h : HH) (ρ : Int32 × HH) (hρ : B_M_connect_232 fz x1 h = ρ) (hp : P_M_connect_232 fz x1 h) (X : CallFix p m c b_M_connect 5 s args TB R_M) (K : KK D cI cZ s) (hr : meth.sig.returnType = (some .int)) (hk : meth.locks = false) {ls : Array Slot} {H : Heap} {locs : List Loc} (hl : Lc ls 5 [some (.ref (ad 27)), some (.int x1), none, none, none]) (hw : Hw D cI cZ base ad s shape h H locs) : W p l e (rmD 2 46) s m args below meth c H locs 0 0 (MQ below (Qw D cI cZ base ad (pIH ρ)) args s 0 0 (fun q => base ≤ q)) (F0 m 232 ls []) := by
  unfold B_M_connect_232 at hρ
  unfold P_M_connect_232 at hp
  refine lv_aload_n X.1 X.2.1 d_M_connect_232 rfl (hl.at 0 rfl) ?_
  refine lv_iload_n X.1 X.2.1 d_M_connect_233 rfl (hl.at 1 rfl) ?_
  refine r_callV (rest := []) X K hw hl.1 mf_M_136 rfl rfl rfl (c_M_endIfEmpty l D cI cZ base ad fz x1 h hp.1) (by decide) ⟨Nat.le_refl _, Nat.le_refl _⟩ rfl rfl (Nat.le_of_ble_eq_true rfl) d_M_connect_234 (fun v h' H locs q hw => ?_)
  obtain ⟨rfl, rfl⟩ := q
  have hp := hp.2
  refine lv_iconst (v := (1 : Int32)) X.1 X.2.1 d_M_connect_237 (by decide) ?_
  refine lv_iload_n X.1 X.2.1 d_M_connect_238 rfl (hl.at 1 rfl) ?_
  refine lv_iadd X.1 X.2.1 d_M_connect_239 ?_
  exact r_iret X hr hk hw ⟨congrArg (fun z => some (Value.int z.1)) hρ, (congrArg Prod.snd hρ).symm⟩ d_M_connect_240
set_option maxHeartbeats 4000000 in
set_option maxRecDepth 100000 in
theorem w_M_connect_147 (X : CallFix p m c b_M_connect 5 s args TB R_M) (K : KK D cI cZ s) (hr : meth.sig.returnType = (some .int)) (hk : meth.locks = false) (fz : Nat) : ∀ (fu : Nat) (x1 : Int32) (x2 : Int32) (x3 : Int32) (x4 : Int32) (h : HH) (ρ : Int32 × HH) (_ : B_M_connect_147 fz fu x1 x2 x3 x4 h = ρ) (_ : P_M_connect_147 fz fu x1 x2 x3 x4 h) {ls : Array Slot} {H : Heap} {locs : List Loc} (_ : Lc ls 5 [some (.ref (ad 27)), some (.int x1), some (.int x2), some (.int x3), some (.int x4)]) (_ : Hw D cI cZ base ad s shape h H locs), W p l e (rmD 2 46) s m args below meth c H locs 0 0 (MQ below (Qw D cI cZ base ad (pIH ρ)) args s 0 0 (fun q => base ≤ q)) (F0 m 147 ls []) := by
  intro fu
  induction fu with
  | zero =>
    intro x1 x2 x3 x4 h ρ hρ hp ls H locs hl hw
    exact hp.elim
  | succ fu ih =>
    intro x1 x2 x3 x4 h ρ hρ hp ls H locs hl hw
    rw [B_M_connect_147] at hρ
    rw [P_M_connect_147] at hp
    refine lv_iload X.1 X.2.1 d_M_connect_147 (hl.at 4 rfl) ?_
    refine lv_bipush (v := (32 : Int32)) X.1 X.2.1 d_M_connect_149 (by decide) ?_
    refine lv_icmp_ge (tgt := 211) X.1 X.2.1 d_M_connect_151 (by decide) (fun g => ?_) (fun g => ?_)
    · rw [if_pos g] at hρ
      have hp := hp.1 g
      refine lv_aload_n X.1 X.2.1 d_M_connect_211 rfl (hl.at 0 rfl) ?_
      refine r_getr (j := 44) X K hw fg_M_63 rfl rfl d_M_connect_212 ?_
      refine lv_iload_n X.1 X.2.1 d_M_connect_215 rfl (hl.at 1 rfl) ?_
      refine lv_iconst (v := (1 : Int32)) X.1 X.2.1 d_M_connect_216 (by decide) ?_
      refine r_astz X K hw rfl hp.1 (by decide) d_M_connect_217 (fun H locs hw => ?_)
      have hp := hp.2
      refine lv_aload_n X.1 X.2.1 d_M_connect_218 rfl (hl.at 0 rfl) ?_
      refine r_getr (j := 45) X K hw fg_M_66 rfl rfl d_M_connect_219 ?_
      refine lv_iload_n X.1 X.2.1 d_M_connect_222 rfl (hl.at 2 rfl) ?_
      refine lv_iconst (v := (1 : Int32)) X.1 X.2.1 d_M_connect_223 (by decide) ?_
      refine r_astz X K hw rfl hp.1 (by decide) d_M_connect_224 (fun H locs hw => ?_)
      have hp := hp.2
      refine lv_aload_n X.1 X.2.1 d_M_connect_225 rfl (hl.at 0 rfl) ?_
      refine r_getr (j := 40) X K hw fg_M_51 rfl rfl d_M_connect_226 ?_
      refine lv_iload_n X.1 X.2.1 d_M_connect_229 rfl (hl.at 2 rfl) ?_
      refine lv_iconst (v := (1 : Int32)) X.1 X.2.1 d_M_connect_230 (by decide) ?_
      refine r_astz X K hw rfl hp.1 (by decide) d_M_connect_231 (fun H locs hw => ?_)
      have hp := hp.2
      have hl : Lc ls 5 [some (.ref (ad 27)), some (.int x1), none, none, none] := hl.mask [true, true, false, false, false]
      exact w_M_connect_232 fz x1 (u2 (u2 (u2 h 44 (ix x1) (1 : Int32)) 45 (ix x2) (1 : Int32)) 40 (ix x2) (1 : Int32)) ρ hρ hp X K hr hk hl hw
    · rw [if_neg g] at hρ
      have hp := hp.2 g
      refine lv_aload_n X.1 X.2.1 d_M_connect_154 rfl (hl.at 0 rfl) ?_
      refine r_getr (j := 35) X K hw fg_M_32 rfl rfl d_M_connect_155 ?_
      refine lv_bipush (v := (32 : Int32)) X.1 X.2.1 d_M_connect_158 (by decide) ?_
      refine lv_iload_n X.1 X.2.1 d_M_connect_160 rfl (hl.at 1 rfl) ?_
      refine lv_imul X.1 X.2.1 d_M_connect_161 ?_
      refine lv_iload X.1 X.2.1 d_M_connect_162 (hl.at 4 rfl) ?_
      refine lv_iadd X.1 X.2.1 d_M_connect_164 ?_
      refine lv_iload_n X.1 X.2.1 d_M_connect_165 rfl (hl.at 3 rfl) ?_
      refine lv_if_ne (tgt := 199) X.1 X.2.1 d_M_connect_166 (by decide) (fun g => ?_) (fun g => ?_)
      · rw [if_neg g] at hρ
        have hp := hp.2 g
        refine lv_iconst (v := (1 : Int32)) X.1 X.2.1 d_M_connect_199 (by decide) ?_
        refine lv_goto (tgt := 204) X.1 X.2.1 d_M_connect_200 (by decide) ?_
        refine r_astz X K hw rfl hp.1 (by decide) d_M_connect_204 (fun H locs hw => ?_)
        have hp := hp.2
        refine lv_iincL X.1 X.2.1 hl (v := (x4 + 1)) d_M_connect_205 rfl (congrArg (fun z => x4 + z) (by decide)) (by decide) (fun ls hl => ?_)
        have hl : Lc ls 5 [some (.ref (ad 27)), some (.int x1), some (.int x2), some (.int x3), some (.int (x4 + 1))] := hl
        refine lv_goto (tgt := 147) X.1 X.2.1 d_M_connect_208 (by decide) ?_
        exact ih x1 x2 x3 (x4 + 1) (u2 h 35 (ix (((32 : Int32) * x1) + x4)) (1 : Int32)) ρ hρ hp hl hw
      · rw [if_pos g] at hρ
        have hp := hp.1 g
        refine lv_aload_n X.1 X.2.1 d_M_connect_169 rfl (hl.at 0 rfl) ?_
        refine r_getr (j := 35) X K hw fg_M_32 rfl rfl d_M_connect_170 ?_
        refine lv_bipush (v := (32 : Int32)) X.1 X.2.1 d_M_connect_173 (by decide) ?_
        refine lv_iload_n X.1 X.2.1 d_M_connect_175 rfl (hl.at 1 rfl) ?_
        refine lv_imul X.1 X.2.1 d_M_connect_176 ?_
        refine lv_iload X.1 X.2.1 d_M_connect_177 (hl.at 4 rfl) ?_
        refine lv_iadd X.1 X.2.1 d_M_connect_179 ?_
        refine r_aldz X K hw rfl hp.1 d_M_connect_180 ?_
        have hp := hp.2
        refine lv_if_ne (tgt := 199) X.1 X.2.1 d_M_connect_181 (by decide) (fun g => ?_) (fun g => ?_)
        · rw [if_neg g] at hρ
          have hp := hp.2 g
          refine lv_iconst (v := (1 : Int32)) X.1 X.2.1 d_M_connect_199 (by decide) ?_
          refine lv_goto (tgt := 204) X.1 X.2.1 d_M_connect_200 (by decide) ?_
          refine r_astz X K hw rfl hp.1 (by decide) d_M_connect_204 (fun H locs hw => ?_)
          have hp := hp.2
          refine lv_iincL X.1 X.2.1 hl (v := (x4 + 1)) d_M_connect_205 rfl (congrArg (fun z => x4 + z) (by decide)) (by decide) (fun ls hl => ?_)
          have hl : Lc ls 5 [some (.ref (ad 27)), some (.int x1), some (.int x2), some (.int x3), some (.int (x4 + 1))] := hl
          refine lv_goto (tgt := 147) X.1 X.2.1 d_M_connect_208 (by decide) ?_
          exact ih x1 x2 x3 (x4 + 1) (u2 h 35 (ix (((32 : Int32) * x1) + x4)) (1 : Int32)) ρ hρ hp hl hw
        · rw [if_pos g] at hρ
          have hp := hp.1 g
          refine lv_aload_n X.1 X.2.1 d_M_connect_184 rfl (hl.at 0 rfl) ?_
          refine r_getr (j := 35) X K hw fg_M_32 rfl rfl d_M_connect_185 ?_
          refine lv_bipush (v := (32 : Int32)) X.1 X.2.1 d_M_connect_188 (by decide) ?_
          refine lv_iload_n X.1 X.2.1 d_M_connect_190 rfl (hl.at 2 rfl) ?_
          refine lv_imul X.1 X.2.1 d_M_connect_191 ?_
          refine lv_iload X.1 X.2.1 d_M_connect_192 (hl.at 4 rfl) ?_
          refine lv_iadd X.1 X.2.1 d_M_connect_194 ?_
          refine r_aldz X K hw rfl hp.1 d_M_connect_195 ?_
          have hp := hp.2
          refine lv_if_eq (tgt := 203) X.1 X.2.1 d_M_connect_196 (by decide) (fun g => ?_) (fun g => ?_)
          · rw [if_pos g] at hρ
            have hp := hp.1 g
            refine lv_iconst (v := (0 : Int32)) X.1 X.2.1 d_M_connect_203 (by decide) ?_
            refine r_astz X K hw rfl hp.1 (by decide) d_M_connect_204 (fun H locs hw => ?_)
            have hp := hp.2
            refine lv_iincL X.1 X.2.1 hl (v := (x4 + 1)) d_M_connect_205 rfl (congrArg (fun z => x4 + z) (by decide)) (by decide) (fun ls hl => ?_)
            have hl : Lc ls 5 [some (.ref (ad 27)), some (.int x1), some (.int x2), some (.int x3), some (.int (x4 + 1))] := hl
            refine lv_goto (tgt := 147) X.1 X.2.1 d_M_connect_208 (by decide) ?_
            exact ih x1 x2 x3 (x4 + 1) (u2 h 35 (ix (((32 : Int32) * x1) + x4)) (0 : Int32)) ρ hρ hp hl hw
          · rw [if_neg g] at hρ
            have hp := hp.2 g
            refine lv_iconst (v := (1 : Int32)) X.1 X.2.1 d_M_connect_199 (by decide) ?_
            refine lv_goto (tgt := 204) X.1 X.2.1 d_M_connect_200 (by decide) ?_
            refine r_astz X K hw rfl hp.1 (by decide) d_M_connect_204 (fun H locs hw => ?_)
            have hp := hp.2
            refine lv_iincL X.1 X.2.1 hl (v := (x4 + 1)) d_M_connect_205 rfl (congrArg (fun z => x4 + z) (by decide)) (by decide) (fun ls hl => ?_)
            have hl : Lc ls 5 [some (.ref (ad 27)), some (.int x1), some (.int x2), some (.int x3), some (.int (x4 + 1))] := hl
            refine lv_goto (tgt := 147) X.1 X.2.1 d_M_connect_208 (by decide) ?_
            exact ih x1 x2 x3 (x4 + 1) (u2 h 35 (ix (((32 : Int32) * x1) + x4)) (1 : Int32)) ρ hρ hp hl hw
set_option maxHeartbeats 4000000 in
set_option maxRecDepth 100000 in
theorem w_M_connect_143 (fz : Nat) (x1 : Int32) (x2 : Int32) (y0 : Int32) (h : HH) (ρ : Int32 × HH) (hρ : B_M_connect_143 fz x1 x2 y0 h = ρ) (hp : P_M_connect_143 fz x1 x2 y0 h) (X : CallFix p m c b_M_connect 5 s args TB R_M) (K : KK D cI cZ s) (hr : meth.sig.returnType = (some .int)) (hk : meth.locks = false) {ls : Array Slot} {H : Heap} {locs : List Loc} (hl : Lc ls 5 [some (.ref (ad 27)), some (.int x1), some (.int x2), none, none]) (hw : Hw D cI cZ base ad s shape h H locs) : W p l e (rmD 2 46) s m args below meth c H locs 0 0 (MQ below (Qw D cI cZ base ad (pIH ρ)) args s 0 0 (fun q => base ≤ q)) (F0 m 143 ls [.int y0]) := by
  unfold B_M_connect_143 at hρ
  unfold P_M_connect_143 at hp
  refine r_istore_n X hl d_M_connect_143 rfl (by decide) (fun ls hl => ?_)
  have hl : Lc ls 5 [some (.ref (ad 27)), some (.int x1), some (.int x2), some (.int y0), none] := hl
  refine lv_iconst (v := (0 : Int32)) X.1 X.2.1 d_M_connect_144 (by decide) ?_
  refine r_istore X hl d_M_connect_145 (by decide) (fun ls hl => ?_)
  have hl : Lc ls 5 [some (.ref (ad 27)), some (.int x1), some (.int x2), some (.int y0), some (.int (0 : Int32))] := hl
  exact w_M_connect_147 X K hr hk fz fz x1 x2 y0 (0 : Int32) h ρ hρ hp hl hw
set_option maxHeartbeats 4000000 in
set_option maxRecDepth 100000 in
theorem w_M_connect_138 (fz : Nat) (x1 : Int32) (x2 : Int32) (h : HH) (ρ : Int32 × HH) (hρ : B_M_connect_138 fz x1 x2 h = ρ) (hp : P_M_connect_138 fz x1 x2 h) (X : CallFix p m c b_M_connect 5 s args TB R_M) (K : KK D cI cZ s) (hr : meth.sig.returnType = (some .int)) (hk : meth.locks = false) {ls : Array Slot} {H : Heap} {locs : List Loc} (hl : Lc ls 5 [some (.ref (ad 27)), some (.int x1), some (.int x2), none, none]) (hw : Hw D cI cZ base ad s shape h H locs) : W p l e (rmD 2 46) s m args below meth c H locs 0 0 (MQ below (Qw D cI cZ base ad (pIH ρ)) args s 0 0 (fun q => base ≤ q)) (F0 m 138 ls []) := by
  unfold B_M_connect_138 at hρ
  unfold P_M_connect_138 at hp
  refine lv_iconst (v := (1 : Int32)) X.1 X.2.1 d_M_connect_138 (by decide) ?_
  refine lv_goto (tgt := 143) X.1 X.2.1 d_M_connect_139 (by decide) ?_
  exact w_M_connect_143 fz x1 x2 (1 : Int32) h ρ hρ hp X K hr hk hl hw
set_option maxHeartbeats 4000000 in
set_option maxRecDepth 100000 in
theorem w_M_connect_142 (fz : Nat) (x1 : Int32) (x2 : Int32) (h : HH) (ρ : Int32 × HH) (hρ : B_M_connect_142 fz x1 x2 h = ρ) (hp : P_M_connect_142 fz x1 x2 h) (X : CallFix p m c b_M_connect 5 s args TB R_M) (K : KK D cI cZ s) (hr : meth.sig.returnType = (some .int)) (hk : meth.locks = false) {ls : Array Slot} {H : Heap} {locs : List Loc} (hl : Lc ls 5 [some (.ref (ad 27)), some (.int x1), some (.int x2), none, none]) (hw : Hw D cI cZ base ad s shape h H locs) : W p l e (rmD 2 46) s m args below meth c H locs 0 0 (MQ below (Qw D cI cZ base ad (pIH ρ)) args s 0 0 (fun q => base ≤ q)) (F0 m 142 ls []) := by
  unfold B_M_connect_142 at hρ
  unfold P_M_connect_142 at hp
  refine lv_iconst (v := (0 : Int32)) X.1 X.2.1 d_M_connect_142 (by decide) ?_
  exact w_M_connect_143 fz x1 x2 (0 : Int32) h ρ hρ hp X K hr hk hl hw
set_option maxHeartbeats 4000000 in
set_option maxRecDepth 100000 in
theorem w_M_connect_95 (fz : Nat) (x1 : Int32) (h : HH) (ρ : Int32 × HH) (hρ : B_M_connect_95 fz x1 h = ρ) (hp : P_M_connect_95 fz x1 h) (X : CallFix p m c b_M_connect 5 s args TB R_M) (K : KK D cI cZ s) (hr : meth.sig.returnType = (some .int)) (hk : meth.locks = false) {ls : Array Slot} {H : Heap} {locs : List Loc} (hl : Lc ls 5 [some (.ref (ad 27)), some (.int x1), none, none, none]) (hw : Hw D cI cZ base ad s shape h H locs) : W p l e (rmD 2 46) s m args below meth c H locs 0 0 (MQ below (Qw D cI cZ base ad (pIH ρ)) args s 0 0 (fun q => base ≤ q)) (F0 m 95 ls []) := by
  unfold B_M_connect_95 at hρ
  unfold P_M_connect_95 at hp
  refine lv_iconst (v := (1 : Int32)) X.1 X.2.1 d_M_connect_95 (by decide) ?_
  refine lv_iload_n X.1 X.2.1 d_M_connect_96 rfl (hl.at 1 rfl) ?_
  refine lv_isub X.1 X.2.1 d_M_connect_97 ?_
  refine r_istore_n X hl d_M_connect_98 rfl (by decide) (fun ls hl => ?_)
  have hl : Lc ls 5 [some (.ref (ad 27)), some (.int x1), some (.int ((1 : Int32) - x1)), none, none] := hl
  refine lv_aload_n X.1 X.2.1 d_M_connect_99 rfl (hl.at 0 rfl) ?_
  refine r_getr (j := 38) X K hw fg_M_41 rfl rfl d_M_connect_100 ?_
  refine lv_iload_n X.1 X.2.1 d_M_connect_103 rfl (hl.at 2 rfl) ?_
  refine r_ald X K hw rfl hp.1 d_M_connect_104 ?_
  have hp := hp.2
  refine lv_if_eq (tgt := 138) X.1 X.2.1 d_M_connect_105 (by decide) (fun g => ?_) (fun g => ?_)
  · rw [if_pos g] at hρ
    have hp := hp.1 g
    exact w_M_connect_138 fz x1 ((1 : Int32) - x1) h ρ hρ hp X K hr hk hl hw
  · rw [if_neg g] at hρ
    have hp := hp.2 g
    refine lv_aload_n X.1 X.2.1 d_M_connect_108 rfl (hl.at 0 rfl) ?_
    refine r_getr (j := 38) X K hw fg_M_41 rfl rfl d_M_connect_109 ?_
    refine lv_iload_n X.1 X.2.1 d_M_connect_112 rfl (hl.at 2 rfl) ?_
    refine r_ald X K hw rfl hp.1 d_M_connect_113 ?_
    have hp := hp.2
    refine lv_aload_n X.1 X.2.1 d_M_connect_114 rfl (hl.at 0 rfl) ?_
    refine r_getr (j := 38) X K hw fg_M_41 rfl rfl d_M_connect_115 ?_
    refine lv_iload_n X.1 X.2.1 d_M_connect_118 rfl (hl.at 1 rfl) ?_
    refine r_ald X K hw rfl hp.1 d_M_connect_119 ?_
    have hp := hp.2
    refine lv_icmp_eq (tgt := 142) X.1 X.2.1 d_M_connect_120 (by decide) (fun g => ?_) (fun g => ?_)
    · rw [if_pos g] at hρ
      have hp := hp.1 g
      exact w_M_connect_142 fz x1 ((1 : Int32) - x1) h ρ hρ hp X K hr hk hl hw
    · rw [if_neg g] at hρ
      have hp := hp.2 g
      refine lv_aload_n X.1 X.2.1 d_M_connect_123 rfl (hl.at 0 rfl) ?_
      refine r_getr (j := 38) X K hw fg_M_41 rfl rfl d_M_connect_124 ?_
      refine lv_iload_n X.1 X.2.1 d_M_connect_127 rfl (hl.at 2 rfl) ?_
      refine r_ald X K hw rfl hp.1 d_M_connect_128 ?_
      have hp := hp.2
      refine lv_aload_n X.1 X.2.1 d_M_connect_129 rfl (hl.at 0 rfl) ?_
      refine r_getr (j := 39) X K hw fg_M_44 rfl rfl d_M_connect_130 ?_
      refine lv_iload_n X.1 X.2.1 d_M_connect_133 rfl (hl.at 1 rfl) ?_
      refine r_ald X K hw rfl hp.1 d_M_connect_134 ?_
      have hp := hp.2
      refine lv_icmp_eq (tgt := 142) X.1 X.2.1 d_M_connect_135 (by decide) (fun g => ?_) (fun g => ?_)
      · rw [if_pos g] at hρ
        have hp := hp.1 g
        exact w_M_connect_142 fz x1 ((1 : Int32) - x1) h ρ hρ hp X K hr hk hl hw
      · rw [if_neg g] at hρ
        have hp := hp.2 g
        exact w_M_connect_138 fz x1 ((1 : Int32) - x1) h ρ hρ hp X K hr hk hl hw
set_option maxHeartbeats 4000000 in
set_option maxRecDepth 100000 in
theorem w_M_connect_84 (fz : Nat) (x1 : Int32) (h : HH) (ρ : Int32 × HH) (hρ : B_M_connect_84 fz x1 h = ρ) (hp : P_M_connect_84 fz x1 h) (X : CallFix p m c b_M_connect 5 s args TB R_M) (K : KK D cI cZ s) (hr : meth.sig.returnType = (some .int)) (hk : meth.locks = false) {ls : Array Slot} {H : Heap} {locs : List Loc} (hl : Lc ls 5 [some (.ref (ad 27)), some (.int x1), none, none, none]) (hw : Hw D cI cZ base ad s shape h H locs) : W p l e (rmD 2 46) s m args below meth c H locs 0 0 (MQ below (Qw D cI cZ base ad (pIH ρ)) args s 0 0 (fun q => base ≤ q)) (F0 m 84 ls []) := by
  unfold B_M_connect_84 at hρ
  unfold P_M_connect_84 at hp
  refine lv_aload_n X.1 X.2.1 d_M_connect_84 rfl (hl.at 0 rfl) ?_
  refine lv_iconst (v := (1 : Int32)) X.1 X.2.1 d_M_connect_85 (by decide) ?_
  refine r_put X K hw fp_M_109 rfl rfl (by decide) (by decide) d_M_connect_86 (fun H locs hw => ?_)
  refine lv_iload_n X.1 X.2.1 d_M_connect_89 rfl (hl.at 1 rfl) ?_
  refine lv_if_ge (tgt := 95) X.1 X.2.1 d_M_connect_90 (by decide) (fun g => ?_) (fun g => ?_)
  · rw [if_pos g] at hρ
    have hp := hp.1 g
    exact w_M_connect_95 fz x1 (u2 h 27 23 (1 : Int32)) ρ hρ hp X K hr hk hl hw
  · rw [if_neg g] at hρ
    have hp := hp.2 g
    refine lv_iconst (v := (0 : Int32)) X.1 X.2.1 d_M_connect_93 (by decide) ?_
    exact r_iret X hr hk hw ⟨congrArg (fun z => some (Value.int z.1)) hρ, (congrArg Prod.snd hρ).symm⟩ d_M_connect_94
set_option maxHeartbeats 4000000 in
set_option maxRecDepth 100000 in
theorem w_M_connect_52 (fz : Nat)  (h : HH) (ρ : Int32 × HH) (hρ : B_M_connect_52 fz  h = ρ) (hp : P_M_connect_52 fz  h) (X : CallFix p m c b_M_connect 5 s args TB R_M) (K : KK D cI cZ s) (hr : meth.sig.returnType = (some .int)) (hk : meth.locks = false) {ls : Array Slot} {H : Heap} {locs : List Loc} (hl : Lc ls 5 [some (.ref (ad 27)), none, none, none, none]) (hw : Hw D cI cZ base ad s shape h H locs) : W p l e (rmD 2 46) s m args below meth c H locs 0 0 (MQ below (Qw D cI cZ base ad (pIH ρ)) args s 0 0 (fun q => base ≤ q)) (F0 m 52 ls []) := by
  unfold B_M_connect_52 at hρ
  unfold P_M_connect_52 at hp
  refine lv_aload_n X.1 X.2.1 d_M_connect_52 rfl (hl.at 0 rfl) ?_
  refine r_callV (rest := []) X K hw hl.1 mf_M_143 rfl rfl rfl (c_M_chosen l D cI cZ base ad fz  h hp.1) (by decide) ⟨Nat.le_refl _, Nat.le_refl _⟩ rfl rfl (Nat.le_of_ble_eq_true rfl) d_M_connect_53 (fun v h' H locs q hw => ?_)
  obtain ⟨rfl, rfl⟩ := q
  have hp := hp.2
  refine r_istore_n X hl d_M_connect_56 rfl (by decide) (fun ls hl => ?_)
  have hl : Lc ls 5 [some (.ref (ad 27)), some (.int (B_M_chosen fz  h)), none, none, none] := hl
  refine lv_iload_n X.1 X.2.1 d_M_connect_57 rfl (hl.at 1 rfl) ?_
  refine lv_bipush (v := (-8 : Int32)) X.1 X.2.1 d_M_connect_58 (by decide) ?_
  refine lv_icmp_ne (tgt := 66) X.1 X.2.1 d_M_connect_60 (by decide) (fun g => ?_) (fun g => ?_)
  · rw [if_neg g] at hρ
    have hp := hp.2 g
    refine lv_iload_n X.1 X.2.1 d_M_connect_66 rfl (hl.at 1 rfl) ?_
    refine lv_if_lt (tgt := 84) X.1 X.2.1 d_M_connect_67 (by decide) (fun g => ?_) (fun g => ?_)
    · rw [if_pos g] at hρ
      have hp := hp.1 g
      exact w_M_connect_84 fz (B_M_chosen fz  h) h ρ hρ hp X K hr hk hl hw
    · rw [if_neg g] at hρ
      have hp := hp.2 g
      refine lv_aload_n X.1 X.2.1 d_M_connect_70 rfl (hl.at 0 rfl) ?_
      refine r_getr (j := 43) X K hw fg_M_60 rfl rfl d_M_connect_71 ?_
      refine lv_iconst (v := (1 : Int32)) X.1 X.2.1 d_M_connect_74 (by decide) ?_
      refine lv_iload_n X.1 X.2.1 d_M_connect_75 rfl (hl.at 1 rfl) ?_
      refine lv_isub X.1 X.2.1 d_M_connect_76 ?_
      refine r_aldz X K hw rfl hp.1 d_M_connect_77 ?_
      have hp := hp.2
      refine lv_if_eq (tgt := 84) X.1 X.2.1 d_M_connect_78 (by decide) (fun g => ?_) (fun g => ?_)
      · rw [if_pos g] at hρ
        have hp := hp.1 g
        exact w_M_connect_84 fz (B_M_chosen fz  h) h ρ hρ hp X K hr hk hl hw
      · rw [if_neg g] at hρ
        have hp := hp.2 g
        refine lv_bipush (v := (-10 : Int32)) X.1 X.2.1 d_M_connect_81 (by decide) ?_
        exact r_iret X hr hk hw ⟨congrArg (fun z => some (Value.int z.1)) hρ, (congrArg Prod.snd hρ).symm⟩ d_M_connect_83
  · rw [if_pos g] at hρ
    have hp := hp.1 g
    refine lv_bipush (v := (-8 : Int32)) X.1 X.2.1 d_M_connect_63 (by decide) ?_
    exact r_iret X hr hk hw ⟨congrArg (fun z => some (Value.int z.1)) hρ, (congrArg Prod.snd hρ).symm⟩ d_M_connect_65
set_option maxHeartbeats 4000000 in
set_option maxRecDepth 100000 in
theorem w_M_connect (fz : Nat)  (h : HH) (ρ : Int32 × HH) (hρ : B_M_connect fz  h = ρ) (hp : P_M_connect fz  h) (X : CallFix p m c b_M_connect 5 s args TB R_M) (K : KK D cI cZ s) (hr : meth.sig.returnType = (some .int)) (hk : meth.locks = false) {ls : Array Slot} {H : Heap} {locs : List Loc} (hl : Lc ls 5 [some (.ref (ad 27)), none, none, none, none]) (hw : Hw D cI cZ base ad s shape h H locs) : W p l e (rmD 2 46) s m args below meth c H locs 0 0 (MQ below (Qw D cI cZ base ad (pIH ρ)) args s 0 0 (fun q => base ≤ q)) (F0 m 0 ls []) := by
  unfold B_M_connect at hρ
  unfold P_M_connect at hp
  refine lv_aload_n X.1 X.2.1 d_M_connect_0 rfl (hl.at 0 rfl) ?_
  refine r_getr (j := 42) X K hw fg_M_57 rfl rfl d_M_connect_1 ?_
  refine lv_iconst (v := (0 : Int32)) X.1 X.2.1 d_M_connect_4 (by decide) ?_
  refine r_aldz X K hw rfl hp.1 d_M_connect_5 ?_
  have hp := hp.2
  refine lv_if_eq (tgt := 18) X.1 X.2.1 d_M_connect_6 (by decide) (fun g => ?_) (fun g => ?_)
  · rw [if_pos g] at hρ
    have hp := hp.1 g
    refine lv_bipush (v := (-2 : Int32)) X.1 X.2.1 d_M_connect_18 (by decide) ?_
    exact r_iret X hr hk hw ⟨congrArg (fun z => some (Value.int z.1)) hρ, (congrArg Prod.snd hρ).symm⟩ d_M_connect_20
  · rw [if_neg g] at hρ
    have hp := hp.2 g
    refine lv_aload_n X.1 X.2.1 d_M_connect_9 rfl (hl.at 0 rfl) ?_
    refine r_getr (j := 42) X K hw fg_M_57 rfl rfl d_M_connect_10 ?_
    refine lv_iconst (v := (1 : Int32)) X.1 X.2.1 d_M_connect_13 (by decide) ?_
    refine r_aldz X K hw rfl hp.1 d_M_connect_14 ?_
    have hp := hp.2
    refine lv_if_ne (tgt := 21) X.1 X.2.1 d_M_connect_15 (by decide) (fun g => ?_) (fun g => ?_)
    · rw [if_neg g] at hρ
      have hp := hp.2 g
      refine lv_aload_n X.1 X.2.1 d_M_connect_21 rfl (hl.at 0 rfl) ?_
      refine r_geti X K hw fg_M_109 rfl rfl d_M_connect_22 ?_
      refine lv_if_eq (tgt := 31) X.1 X.2.1 d_M_connect_25 (by decide) (fun g => ?_) (fun g => ?_)
      · rw [if_pos g] at hρ
        have hp := hp.1 g
        refine lv_aload_n X.1 X.2.1 d_M_connect_31 rfl (hl.at 0 rfl) ?_
        refine r_getr (j := 43) X K hw fg_M_60 rfl rfl d_M_connect_32 ?_
        refine lv_iconst (v := (0 : Int32)) X.1 X.2.1 d_M_connect_35 (by decide) ?_
        refine r_aldz X K hw rfl hp.1 d_M_connect_36 ?_
        have hp := hp.2
        refine lv_if_eq (tgt := 52) X.1 X.2.1 d_M_connect_37 (by decide) (fun g => ?_) (fun g => ?_)
        · rw [if_pos g] at hρ
          have hp := hp.1 g
          exact w_M_connect_52 fz  h ρ hρ hp X K hr hk hl hw
        · rw [if_neg g] at hρ
          have hp := hp.2 g
          refine lv_aload_n X.1 X.2.1 d_M_connect_40 rfl (hl.at 0 rfl) ?_
          refine r_getr (j := 43) X K hw fg_M_60 rfl rfl d_M_connect_41 ?_
          refine lv_iconst (v := (1 : Int32)) X.1 X.2.1 d_M_connect_44 (by decide) ?_
          refine r_aldz X K hw rfl hp.1 d_M_connect_45 ?_
          have hp := hp.2
          refine lv_if_eq (tgt := 52) X.1 X.2.1 d_M_connect_46 (by decide) (fun g => ?_) (fun g => ?_)
          · rw [if_pos g] at hρ
            have hp := hp.1 g
            exact w_M_connect_52 fz  h ρ hρ hp X K hr hk hl hw
          · rw [if_neg g] at hρ
            have hp := hp.2 g
            refine lv_bipush (v := (-7 : Int32)) X.1 X.2.1 d_M_connect_49 (by decide) ?_
            exact r_iret X hr hk hw ⟨congrArg (fun z => some (Value.int z.1)) hρ, (congrArg Prod.snd hρ).symm⟩ d_M_connect_51
      · rw [if_neg g] at hρ
        have hp := hp.2 g
        refine lv_bipush (v := (-9 : Int32)) X.1 X.2.1 d_M_connect_28 (by decide) ?_
        exact r_iret X hr hk hw ⟨congrArg (fun z => some (Value.int z.1)) hρ, (congrArg Prod.snd hρ).symm⟩ d_M_connect_30
    · rw [if_pos g] at hρ
      have hp := hp.1 g
      refine lv_bipush (v := (-2 : Int32)) X.1 X.2.1 d_M_connect_18 (by decide) ?_
      exact r_iret X hr hk hw ⟨congrArg (fun z => some (Value.int z.1)) hρ, (congrArg Prod.snd hρ).symm⟩ d_M_connect_20
set_option maxRecDepth 100000 in
theorem c_M_connect (l : Launch) (D : va_G) (cI cZ : ClassId) (base : Nat) (ad : Nat → Nat) (fz : Nat)  (h : HH) (hp : P_M_connect fz  h) : Ct l D cI cZ base ad y_M_connect b_M_connect 5 (some .int) 2 46 [.ref (ad 27)] h (pIH (B_M_connect fz  h)) := by
  refine Ct.of (by decide) (Nat.le_of_ble_eq_true rfl) (cat_ok rfl) ?_
  intro p e s m args below meth c ls X K hr hk hl hw
  exact w_M_connect fz  h _ rfl hp X K hr hk hl hw
end WALK
