section WALK
variable {p : Program} {l : Launch} {e : Env} {s : State} {m : MethodId} {args : Array Value} {below : List Frame} {meth : Method} {c : Code} {D : va_G} {cI cZ : ClassId} {base : Nat} {ad : Nat → Nat} {R : Room} {Q : State → Prop} {cells slots : Nat}
set_option maxHeartbeats 4000000 in
set_option maxRecDepth 100000 in
theorem w_N_takeFinish (fz : Nat) (i0 : Nat) (n0 : isN i0) (x1 : Int32) (h : HH) (ρ : HH) (hρ : B_N_takeFinish fz i0 x1 h = ρ) (hp : P_N_takeFinish fz i0 x1 h) (X : CallFix p m c b_N_takeFinish 2 s args TB R_N) (K : KK D cI cZ s) (hr : meth.sig.returnType = none) (hk : meth.locks = false) {ls : Array Slot} {H : Heap} {locs : List Loc} (hl : Lc ls 2 [some (.ref (ad i0)), some (.int x1)]) (hw : Hw D cI cZ base ad s shape h H locs) : W p l e (rmD 0 0) s m args below meth c H locs 0 0 (MQ below (Qw D cI cZ base ad (pH ρ)) args s 0 0 (fun q => base ≤ q)) (F0 m 0 ls []) := by
  unfold B_N_takeFinish at hρ
  unfold P_N_takeFinish at hp
  refine lv_aload_n X.1 X.2.1 d_N_takeFinish_0 rfl (hl.at 0 rfl) ?_
  refine lv_iconst (v := (0 : Int32)) X.1 X.2.1 d_N_takeFinish_1 (by decide) ?_
  refine r_put X K hw fp_N_53 (shp_N n0) rfl (by decide) (by decide) d_N_takeFinish_2 (fun H locs hw => ?_)
  refine lv_aload_n X.1 X.2.1 d_N_takeFinish_5 rfl (hl.at 0 rfl) ?_
  refine lv_iconst (v := (0 : Int32)) X.1 X.2.1 d_N_takeFinish_6 (by decide) ?_
  refine r_put X K hw fp_N_56 (shp_N n0) rfl (by decide) (by decide) d_N_takeFinish_7 (fun H locs hw => ?_)
  refine lv_aload_n X.1 X.2.1 d_N_takeFinish_10 rfl (hl.at 0 rfl) ?_
  refine lv_iconst (v := (0 : Int32)) X.1 X.2.1 d_N_takeFinish_11 (by decide) ?_
  refine r_put X K hw fp_N_59 (shp_N n0) rfl (by decide) (by decide) d_N_takeFinish_12 (fun H locs hw => ?_)
  refine lv_aload_n X.1 X.2.1 d_N_takeFinish_15 rfl (hl.at 0 rfl) ?_
  refine lv_iconst (v := (0 : Int32)) X.1 X.2.1 d_N_takeFinish_16 (by decide) ?_
  refine r_put X K hw fp_N_62 (shp_N n0) rfl rfl rfl d_N_takeFinish_17 (fun H locs hw => ?_)
  refine lv_aload_n X.1 X.2.1 d_N_takeFinish_20 rfl (hl.at 0 rfl) ?_
  refine lv_iload_n X.1 X.2.1 d_N_takeFinish_21 rfl (hl.at 1 rfl) ?_
  refine r_put X K hw fp_N_40 (shp_N n0) rfl rfl rfl d_N_takeFinish_22 (fun H locs hw => ?_)
  refine lv_aload_n X.1 X.2.1 d_N_takeFinish_25 rfl (hl.at 0 rfl) ?_
  refine lv_iconst (v := (0 : Int32)) X.1 X.2.1 d_N_takeFinish_26 (by decide) ?_
  refine r_put X K hw fp_N_65 (shp_N n0) rfl rfl rfl d_N_takeFinish_27 (fun H locs hw => ?_)
  exact r_vret X hr hk hw ⟨rfl, hρ.symm⟩ d_N_takeFinish_30
set_option maxRecDepth 100000 in
theorem c_N_takeFinish (l : Launch) (D : va_G) (cI cZ : ClassId) (base : Nat) (ad : Nat → Nat) (fz : Nat) (i0 : Nat) (n0 : isN i0) (x1 : Int32) (h : HH) (hp : P_N_takeFinish fz i0 x1 h) : Ct l D cI cZ base ad y_N_takeFinish b_N_takeFinish 2 none 0 0 [.ref (ad i0), .int x1] h (pH (B_N_takeFinish fz i0 x1 h)) := by
  refine Ct.of (by decide) (Nat.le_of_ble_eq_true rfl) (cat_ok rfl) ?_
  intro p e s m args below meth c ls X K hr hk hl hw
  exact w_N_takeFinish fz i0 n0 x1 h _ rfl hp X K hr hk hl hw
set_option maxHeartbeats 4000000 in
set_option maxRecDepth 100000 in
theorem w_V_arrive_64 (fz : Nat) (i1 : Nat) (n1 : isN i1) (x3 : Int32) (h : HH) (ρ : HH) (hρ : B_V_arrive_64 fz i1 x3 h = ρ) (hp : P_V_arrive_64 fz i1 x3 h) (X : CallFix p m c b_V_arrive 5 s args TB R_V) (K : KK D cI cZ s) (hr : meth.sig.returnType = none) (hk : meth.locks = false) {ls : Array Slot} {H : Heap} {locs : List Loc} (hl : Lc ls 5 [none, some (.ref (ad i1)), none, some (.int x3), none]) (hw : Hw D cI cZ base ad s shape h H locs) : W p l e (rmD 4 89) s m args below meth c H locs 0 0 (MQ below (Qw D cI cZ base ad (pH ρ)) args s 0 0 (fun q => base ≤ q)) (F0 m 64 ls []) := by
  unfold B_V_arrive_64 at hρ
  unfold P_V_arrive_64 at hp
  refine lv_aload_n X.1 X.2.1 d_V_arrive_64 rfl (hl.at 1 rfl) ?_
  refine r_getr (j := (i1 + 4)) X K hw fg_V_94 (shp_N n1) rfl d_V_arrive_65 ?_
  refine lv_iconst (v := (4 : Int32)) X.1 X.2.1 d_V_arrive_68 (by decide) ?_
  refine lv_iload_n X.1 X.2.1 d_V_arrive_69 rfl (hl.at 3 rfl) ?_
  refine lv_iconst (v := (0 : Int32)) X.1 X.2.1 d_V_arrive_70 (by decide) ?_
  refine r_callV (rest := []) X K hw hl.1 mf_V_98 (shp_O n1) rfl rfl (c_O_send l D cI cZ base ad fz i1 n1 (4 : Int32) x3 (0 : Int32) h hp.1) (by decide) ⟨Nat.le_refl _, Nat.le_refl _⟩ rfl rfl (Nat.le_of_ble_eq_true rfl) d_V_arrive_71 (fun v h' H locs q hw => ?_)
  obtain ⟨rfl, rfl⟩ := q
  have hp := hp.2
  refine lv_goto (tgt := 108) X.1 X.2.1 d_V_arrive_74 (by decide) ?_
  exact r_vret X hr hk hw ⟨rfl, hρ.symm⟩ d_V_arrive_108
set_option maxHeartbeats 4000000 in
set_option maxRecDepth 100000 in
theorem w_V_arrive_91 (fz : Nat) (i1 : Nat) (n1 : isN i1) (x3 : Int32) (h : HH) (ρ : HH) (hρ : B_V_arrive_91 fz i1 x3 h = ρ) (hp : P_V_arrive_91 fz i1 x3 h) (X : CallFix p m c b_V_arrive 5 s args TB R_V) (K : KK D cI cZ s) (hr : meth.sig.returnType = none) (hk : meth.locks = false) {ls : Array Slot} {H : Heap} {locs : List Loc} (hl : Lc ls 5 [some (.ref (ad 0)), some (.ref (ad i1)), none, some (.int x3), none]) (hw : Hw D cI cZ base ad s shape h H locs) : W p l e (rmD 4 89) s m args below meth c H locs 0 0 (MQ below (Qw D cI cZ base ad (pH ρ)) args s 0 0 (fun q => base ≤ q)) (F0 m 91 ls []) := by
  unfold B_V_arrive_91 at hρ
  unfold P_V_arrive_91 at hp
  refine lv_aload_n X.1 X.2.1 d_V_arrive_91 rfl (hl.at 0 rfl) ?_
  refine lv_aload_n X.1 X.2.1 d_V_arrive_92 rfl (hl.at 1 rfl) ?_
  refine lv_iload_n X.1 X.2.1 d_V_arrive_93 rfl (hl.at 3 rfl) ?_
  refine r_callV (rest := []) X K hw hl.1 mf_V_222 rfl rfl rfl (c_V_takeFromMap l D cI cZ base ad fz i1 n1 x3 h hp.1) (by decide) ⟨Nat.le_refl _, Nat.le_refl _⟩ rfl rfl (Nat.le_of_ble_eq_true rfl) d_V_arrive_94 (fun v h' H locs q hw => ?_)
  obtain ⟨rfl, rfl⟩ := q
  have hp := hp.2
  refine lv_goto (tgt := 108) X.1 X.2.1 d_V_arrive_97 (by decide) ?_
  exact r_vret X hr hk hw ⟨rfl, hρ.symm⟩ d_V_arrive_108
set_option maxHeartbeats 4000000 in
set_option maxRecDepth 100000 in
theorem w_V_arrive (fz : Nat) (i1 : Nat) (n1 : isN i1) (x2 : Int32) (x3 : Int32) (x4 : Int32) (h : HH) (ρ : HH) (hρ : B_V_arrive fz i1 x2 x3 x4 h = ρ) (hp : P_V_arrive fz i1 x2 x3 x4 h) (X : CallFix p m c b_V_arrive 5 s args TB R_V) (K : KK D cI cZ s) (hr : meth.sig.returnType = none) (hk : meth.locks = false) {ls : Array Slot} {H : Heap} {locs : List Loc} (hl : Lc ls 5 [some (.ref (ad 0)), some (.ref (ad i1)), some (.int x2), some (.int x3), some (.int x4)]) (hw : Hw D cI cZ base ad s shape h H locs) : W p l e (rmD 4 89) s m args below meth c H locs 0 0 (MQ below (Qw D cI cZ base ad (pH ρ)) args s 0 0 (fun q => base ≤ q)) (F0 m 0 ls []) := by
  unfold B_V_arrive at hρ
  unfold P_V_arrive at hp
  refine lv_iload_n X.1 X.2.1 d_V_arrive_0 rfl (hl.at 2 rfl) ?_
  by_cases g1 : x2 = (1 : Int32)
  · rw [if_pos g1] at hρ
    have hp := hp.1 g1
    refine lv_tableIn (tgt := 36) (off := 35) X.1 X.2.1 d_V_arrive_1 (by rw [g1]; decide) (by rw [g1]; decide) (by rw [g1]; decide) (by decide) ?_
    refine lv_aload_n X.1 X.2.1 d_V_arrive_36 rfl (hl.at 1 rfl) ?_
    refine r_getr (j := (i1 + 8)) X K hw fg_V_133 (shp_N n1) rfl d_V_arrive_37 ?_
    refine lv_iload_n X.1 X.2.1 d_V_arrive_40 rfl (hl.at 3 rfl) ?_
    refine r_callV (rest := []) X K hw hl.1 mf_V_215 (shp_L n1) rfl rfl (c_L_add l D cI cZ base ad fz i1 n1 x3 h hp.1) (by decide) ⟨Nat.le_refl _, Nat.le_refl _⟩ rfl rfl (Nat.le_of_ble_eq_true rfl) d_V_arrive_41 (fun v h' H locs q hw => ?_)
    obtain ⟨rfl, rfl⟩ := q
    have hp := hp.2
    refine lv_goto (tgt := 108) X.1 X.2.1 d_V_arrive_44 (by decide) ?_
    exact r_vret X hr hk hw ⟨rfl, hρ.symm⟩ d_V_arrive_108
  · rw [if_neg g1] at hρ
    have hp := hp.2 g1
    by_cases g2 : x2 = (2 : Int32)
    · rw [if_pos g2] at hρ
      have hp := hp.1 g2
      refine lv_tableIn (tgt := 47) (off := 46) X.1 X.2.1 d_V_arrive_1 (by rw [g2]; decide) (by rw [g2]; decide) (by rw [g2]; decide) (by decide) ?_
      refine lv_aload_n X.1 X.2.1 d_V_arrive_47 rfl (hl.at 0 rfl) ?_
      refine lv_aload_n X.1 X.2.1 d_V_arrive_48 rfl (hl.at 1 rfl) ?_
      refine lv_iload_n X.1 X.2.1 d_V_arrive_49 rfl (hl.at 3 rfl) ?_
      refine r_callV (rest := []) X K hw hl.1 mf_V_218 rfl rfl rfl (c_V_takeAck l D cI cZ base ad fz i1 n1 x3 h hp.1) (by decide) ⟨Nat.le_refl _, Nat.le_refl _⟩ rfl rfl (Nat.le_of_ble_eq_true rfl) d_V_arrive_50 (fun v h' H locs q hw => ?_)
      obtain ⟨rfl, rfl⟩ := q
      have hp := hp.2
      refine lv_goto (tgt := 108) X.1 X.2.1 d_V_arrive_53 (by decide) ?_
      exact r_vret X hr hk hw ⟨rfl, hρ.symm⟩ d_V_arrive_108
    · rw [if_neg g2] at hρ
      have hp := hp.2 g2
      by_cases g3 : x2 = (3 : Int32)
      · rw [if_pos g3] at hρ
        have hp := hp.1 g3
        refine lv_tableIn (tgt := 56) (off := 55) X.1 X.2.1 d_V_arrive_1 (by rw [g3]; decide) (by rw [g3]; decide) (by rw [g3]; decide) (by decide) ?_
        refine lv_aload_n X.1 X.2.1 d_V_arrive_56 rfl (hl.at 1 rfl) ?_
        refine r_getr (j := (i1 + 1)) X K hw fg_V_78 (shp_N n1) rfl d_V_arrive_57 ?_
        refine lv_iload_n X.1 X.2.1 d_V_arrive_60 rfl (hl.at 3 rfl) ?_
        refine lv_iload X.1 X.2.1 d_V_arrive_61 (hl.at 4 rfl) ?_
        refine r_ast X K hw (sha_1 n1) hp.1 d_V_arrive_63 (fun H locs hw => ?_)
        have hp := hp.2
        have hl : Lc ls 5 [none, some (.ref (ad i1)), none, some (.int x3), none] := hl.mask [false, true, false, true, false]
        exact w_V_arrive_64 fz i1 n1 x3 (u2 h (i1 + 1) (ix x3) x4) ρ hρ hp X K hr hk hl hw
      · rw [if_neg g3] at hρ
        have hp := hp.2 g3
        by_cases g4 : x2 = (4 : Int32)
        · rw [if_pos g4] at hρ
          have hp := hp.1 g4
          refine lv_tableIn (tgt := 77) (off := 76) X.1 X.2.1 d_V_arrive_1 (by rw [g4]; decide) (by rw [g4]; decide) (by rw [g4]; decide) (by decide) ?_
          refine lv_aload_n X.1 X.2.1 d_V_arrive_77 rfl (hl.at 1 rfl) ?_
          refine lv_dup X.1 X.2.1 d_V_arrive_78 rfl ?_
          refine r_geti X K hw fg_V_158 (shp_N n1) rfl d_V_arrive_79 ?_
          refine lv_iconst (v := (1 : Int32)) X.1 X.2.1 d_V_arrive_82 (by decide) ?_
          refine lv_iload_n X.1 X.2.1 d_V_arrive_83 rfl (hl.at 3 rfl) ?_
          refine lv_ishl X.1 X.2.1 d_V_arrive_84 ?_
          refine lv_iconst (v := (-1 : Int32)) X.1 X.2.1 d_V_arrive_85 (by decide) ?_
          refine lv_ixor X.1 X.2.1 d_V_arrive_86 ?_
          refine lv_iand X.1 X.2.1 d_V_arrive_87 ?_
          refine r_put X K hw fp_V_158 (shp_N n1) rfl rfl rfl d_V_arrive_88 (fun H locs hw => ?_)
          have hl : Lc ls 5 [some (.ref (ad 0)), some (.ref (ad i1)), none, some (.int x3), none] := hl.mask [true, true, false, true, false]
          exact w_V_arrive_91 fz i1 n1 x3 (u2 h i1 14 ((h i1 14) &&& (((1 : Int32) <<< (x3 &&& 31)) ^^^ (-1 : Int32)))) ρ hρ hp X K hr hk hl hw
        · rw [if_neg g4] at hρ
          have hp := hp.2 g4
          by_cases g5 : x2 = (5 : Int32)
          · rw [if_pos g5] at hρ
            have hp := hp.1 g5
            refine lv_tableIn (tgt := 100) (off := 99) X.1 X.2.1 d_V_arrive_1 (by rw [g5]; decide) (by rw [g5]; decide) (by rw [g5]; decide) (by decide) ?_
            refine lv_aload_n X.1 X.2.1 d_V_arrive_100 rfl (hl.at 1 rfl) ?_
            refine lv_iload_n X.1 X.2.1 d_V_arrive_101 rfl (hl.at 3 rfl) ?_
            refine r_callV (rest := []) X K hw hl.1 mf_V_225 (shp_N n1) rfl rfl (c_N_takeFinish l D cI cZ base ad fz i1 n1 x3 h hp.1) (by decide) ⟨Nat.le_refl _, Nat.le_refl _⟩ rfl rfl (Nat.le_of_ble_eq_true rfl) d_V_arrive_102 (fun v h' H locs q hw => ?_)
            obtain ⟨rfl, rfl⟩ := q
            have hp := hp.2
            refine lv_goto (tgt := 108) X.1 X.2.1 d_V_arrive_105 (by decide) ?_
            exact r_vret X hr hk hw ⟨rfl, hρ.symm⟩ d_V_arrive_108
          · rw [if_neg g5] at hρ
            have hp := hp.2 g5
            refine lv_tableOut (tgt := 108) X.1 X.2.1 d_V_arrive_1 (by have := lv_neT g1 (a := 1) (by decide); have := lv_neT g2 (a := 2) (by decide); have := lv_neT g3 (a := 3) (by decide); have := lv_neT g4 (a := 4) (by decide); have := lv_neT g5 (a := 5) (by decide); omega) (by decide) ?_
            exact r_vret X hr hk hw ⟨rfl, hρ.symm⟩ d_V_arrive_108
set_option maxRecDepth 100000 in
theorem c_V_arrive (l : Launch) (D : va_G) (cI cZ : ClassId) (base : Nat) (ad : Nat → Nat) (fz : Nat) (i1 : Nat) (n1 : isN i1) (x2 : Int32) (x3 : Int32) (x4 : Int32) (h : HH) (hp : P_V_arrive fz i1 x2 x3 x4 h) : Ct l D cI cZ base ad y_V_arrive b_V_arrive 5 none 4 89 [.ref (ad 0), .ref (ad i1), .int x2, .int x3, .int x4] h (pH (B_V_arrive fz i1 x2 x3 x4 h)) := by
  refine Ct.of (by decide) (Nat.le_of_ble_eq_true rfl) (cat_ok rfl) ?_
  intro p e s m args below meth c ls X K hr hk hl hw
  exact w_V_arrive fz i1 n1 x2 x3 x4 h _ rfl hp X K hr hk hl hw
set_option maxHeartbeats 4000000 in
set_option maxRecDepth 100000 in
theorem w_V_deliver_48 (fz : Nat) (x1 : Int32) (x3 : Int32) (x4 : Int32) (x5 : Int32) (h : HH) (ρ : Int32 × HH) (hρ : B_V_deliver_48 fz x1 x3 x4 x5 h = ρ) (hp : P_V_deliver_48 fz x1 x3 x4 x5 h) (X : CallFix p m c b_V_deliver 6 s args TB R_V) (K : KK D cI cZ s) (hr : meth.sig.returnType = (some .int)) (hk : meth.locks = false) {ls : Array Slot} {H : Heap} {locs : List Loc} (hl : Lc ls 6 [some (.ref (ad 0)), some (.int x1), none, some (.int x3), some (.int x4), some (.int x5)]) (hw : Hw D cI cZ base ad s shape h H locs) : W p l e (rmD 5 113) s m args below meth c H locs 0 0 (MQ below (Qw D cI cZ base ad (pIH ρ)) args s 0 0 (fun q => base ≤ q)) (F0 m 48 ls []) := by
  unfold B_V_deliver_48 at hρ
  unfold P_V_deliver_48 at hp
  refine lv_aload_n X.1 X.2.1 d_V_deliver_48 rfl (hl.at 0 rfl) ?_
  refine lv_aload_n X.1 X.2.1 d_V_deliver_49 rfl (hl.at 0 rfl) ?_
  refine lv_iload_n X.1 X.2.1 d_V_deliver_50 rfl (hl.at 1 rfl) ?_
  refine r_callV (rest := [.ref (ad 0)]) X K hw hl.1 mf_V_126 rfl rfl rfl (c_V_peerOf l D cI cZ base ad fz x1 h hp.1) (by decide) ⟨Nat.le_refl _, Nat.le_refl _⟩ rfl rfl (Nat.le_of_ble_eq_true rfl) d_V_deliver_51 (fun v h' H locs q hw => ?_)
  obtain ⟨rfl, rfl⟩ := q
  have hp := hp.2
  refine lv_iload_n X.1 X.2.1 d_V_deliver_54 rfl (hl.at 3 rfl) ?_
  refine lv_iload X.1 X.2.1 d_V_deliver_55 (hl.at 4 rfl) ?_
  refine lv_iload X.1 X.2.1 d_V_deliver_57 (hl.at 5 rfl) ?_
  refine r_callV (rest := []) X K hw hl.1 mf_V_129 rfl rfl rfl (c_V_arrive l D cI cZ base ad fz (B_V_peerOf fz x1 h) (isN_V_peerOf fz x1 h) x3 x4 x5 h hp.1) (by decide) ⟨Nat.le_refl _, Nat.le_refl _⟩ rfl rfl (Nat.le_of_ble_eq_true rfl) d_V_deliver_59 (fun v h' H locs q hw => ?_)
  obtain ⟨rfl, rfl⟩ := q
  have hp := hp.2
  refine lv_iload_n X.1 X.2.1 d_V_deliver_62 rfl (hl.at 3 rfl) ?_
  exact r_iret X hr hk hw ⟨congrArg (fun z => some (Value.int z.1)) hρ, (congrArg Prod.snd hρ).symm⟩ d_V_deliver_63
set_option maxHeartbeats 4000000 in
set_option maxRecDepth 100000 in
theorem w_V_deliver (fz : Nat) (x1 : Int32) (h : HH) (ρ : Int32 × HH) (hρ : B_V_deliver fz x1 h = ρ) (hp : P_V_deliver fz x1 h) (X : CallFix p m c b_V_deliver 6 s args TB R_V) (K : KK D cI cZ s) (hr : meth.sig.returnType = (some .int)) (hk : meth.locks = false) {ls : Array Slot} {H : Heap} {locs : List Loc} (hl : Lc ls 6 [some (.ref (ad 0)), some (.int x1), none, none, none, none]) (hw : Hw D cI cZ base ad s shape h H locs) : W p l e (rmD 5 113) s m args below meth c H locs 0 0 (MQ below (Qw D cI cZ base ad (pIH ρ)) args s 0 0 (fun q => base ≤ q)) (F0 m 0 ls []) := by
  unfold B_V_deliver at hρ
  unfold P_V_deliver at hp
  refine lv_iload_n X.1 X.2.1 d_V_deliver_0 rfl (hl.at 1 rfl) ?_
  refine r_callS (rest := []) X K hw hl.1 mf_V_36 (c_V_isNode l D cI cZ base ad fz x1 h hp.1) (by decide) ⟨Nat.le_refl _, Nat.le_refl _⟩ rfl rfl (Nat.le_of_ble_eq_true rfl) d_V_deliver_1 (fun v h' H locs q hw => ?_)
  obtain ⟨rfl, rfl⟩ := q
  have hp := hp.2
  refine lv_if_ne (tgt := 9) X.1 X.2.1 d_V_deliver_4 (by decide) (fun g => ?_) (fun g => ?_)
  · rw [if_neg g] at hρ
    have hp := hp.2 g
    refine lv_aload_n X.1 X.2.1 d_V_deliver_9 rfl (hl.at 0 rfl) ?_
    refine lv_iload_n X.1 X.2.1 d_V_deliver_10 rfl (hl.at 1 rfl) ?_
    refine r_callV (rest := []) X K hw hl.1 mf_V_43 rfl rfl rfl (c_V_nodeOf l D cI cZ base ad fz x1 h hp.1) (by decide) ⟨Nat.le_refl _, Nat.le_refl _⟩ rfl rfl (Nat.le_of_ble_eq_true rfl) d_V_deliver_11 (fun v h' H locs q hw => ?_)
    obtain ⟨rfl, rfl⟩ := q
    have hp := hp.2
    refine r_getr (j := ((B_V_nodeOf fz x1 h) + 4)) X K hw fg_V_94 (shp_N (isN_V_nodeOf fz x1 h)) rfl d_V_deliver_14 ?_
    refine r_astore_n X hl d_V_deliver_17 rfl (by decide) (fun ls hl => ?_)
    have hl : Lc ls 6 [some (.ref (ad 0)), some (.int x1), some (.ref (ad ((B_V_nodeOf fz x1 h) + 4))), none, none, none] := hl
    refine lv_aload_n X.1 X.2.1 d_V_deliver_18 rfl (hl.at 2 rfl) ?_
    refine r_geti X K hw fg_V_110 (shp_O (isN_V_nodeOf fz x1 h)) rfl d_V_deliver_19 ?_
    refine lv_if_ne (tgt := 27) X.1 X.2.1 d_V_deliver_22 (by decide) (fun g => ?_) (fun g => ?_)
    · rw [if_neg g] at hρ
      have hp := hp.2 g
      refine lv_aload_n X.1 X.2.1 d_V_deliver_27 rfl (hl.at 2 rfl) ?_
      refine r_callV (rest := []) X K hw hl.1 mf_V_113 (shp_O (isN_V_nodeOf fz x1 h)) rfl rfl (c_O_kindOfFirst l D cI cZ base ad fz (B_V_nodeOf fz x1 h) (isN_V_nodeOf fz x1 h) h hp.1) (by decide) ⟨Nat.le_refl _, Nat.le_refl _⟩ rfl rfl (Nat.le_of_ble_eq_true rfl) d_V_deliver_28 (fun v h' H locs q hw => ?_)
      obtain ⟨rfl, rfl⟩ := q
      have hp := hp.2
      refine r_istore_n X hl d_V_deliver_31 rfl (by decide) (fun ls hl => ?_)
      have hl : Lc ls 6 [some (.ref (ad 0)), some (.int x1), some (.ref (ad ((B_V_nodeOf fz x1 h) + 4))), some (.int (B_O_kindOfFirst fz (B_V_nodeOf fz x1 h) h)), none, none] := hl
      refine lv_aload_n X.1 X.2.1 d_V_deliver_32 rfl (hl.at 2 rfl) ?_
      refine r_callV (rest := []) X K hw hl.1 mf_V_117 (shp_O (isN_V_nodeOf fz x1 h)) rfl rfl (c_O_subjectOfFirst l D cI cZ base ad fz (B_V_nodeOf fz x1 h) (isN_V_nodeOf fz x1 h) h hp.1) (by decide) ⟨Nat.le_refl _, Nat.le_refl _⟩ rfl rfl (Nat.le_of_ble_eq_true rfl) d_V_deliver_33 (fun v h' H locs q hw => ?_)
      obtain ⟨rfl, rfl⟩ := q
      have hp := hp.2
      refine r_istore X hl d_V_deliver_36 (by decide) (fun ls hl => ?_)
      have hl : Lc ls 6 [some (.ref (ad 0)), some (.int x1), some (.ref (ad ((B_V_nodeOf fz x1 h) + 4))), some (.int (B_O_kindOfFirst fz (B_V_nodeOf fz x1 h) h)), some (.int (B_O_subjectOfFirst fz (B_V_nodeOf fz x1 h) h)), none] := hl
      refine lv_aload_n X.1 X.2.1 d_V_deliver_38 rfl (hl.at 2 rfl) ?_
      refine r_callV (rest := []) X K hw hl.1 mf_V_120 (shp_O (isN_V_nodeOf fz x1 h)) rfl rfl (c_O_valueOfFirst l D cI cZ base ad fz (B_V_nodeOf fz x1 h) (isN_V_nodeOf fz x1 h) h hp.1) (by decide) ⟨Nat.le_refl _, Nat.le_refl _⟩ rfl rfl (Nat.le_of_ble_eq_true rfl) d_V_deliver_39 (fun v h' H locs q hw => ?_)
      obtain ⟨rfl, rfl⟩ := q
      have hp := hp.2
      refine r_istore X hl d_V_deliver_42 (by decide) (fun ls hl => ?_)
      have hl : Lc ls 6 [some (.ref (ad 0)), some (.int x1), some (.ref (ad ((B_V_nodeOf fz x1 h) + 4))), some (.int (B_O_kindOfFirst fz (B_V_nodeOf fz x1 h) h)), some (.int (B_O_subjectOfFirst fz (B_V_nodeOf fz x1 h) h)), some (.int (B_O_valueOfFirst fz (B_V_nodeOf fz x1 h) h))] := hl
      refine lv_aload_n X.1 X.2.1 d_V_deliver_44 rfl (hl.at 2 rfl) ?_
      refine r_callV (rest := []) X K hw hl.1 mf_V_123 (shp_O (isN_V_nodeOf fz x1 h)) rfl rfl (c_O_dropFirst l D cI cZ base ad fz (B_V_nodeOf fz x1 h) (isN_V_nodeOf fz x1 h) h hp.1) (by decide) ⟨Nat.le_refl _, Nat.le_refl _⟩ rfl rfl (Nat.le_of_ble_eq_true rfl) d_V_deliver_45 (fun v h' H locs q hw => ?_)
      obtain ⟨rfl, rfl⟩ := q
      have hp := hp.2
      have hl : Lc ls 6 [some (.ref (ad 0)), some (.int x1), none, some (.int (B_O_kindOfFirst fz (B_V_nodeOf fz x1 h) h)), some (.int (B_O_subjectOfFirst fz (B_V_nodeOf fz x1 h) h)), some (.int (B_O_valueOfFirst fz (B_V_nodeOf fz x1 h) h))] := hl.mask [true, true, false, true, true, true]
      exact w_V_deliver_48 fz x1 (B_O_kindOfFirst fz (B_V_nodeOf fz x1 h) h) (B_O_subjectOfFirst fz (B_V_nodeOf fz x1 h) h) (B_O_valueOfFirst fz (B_V_nodeOf fz x1 h) h) (B_O_dropFirst fz (B_V_nodeOf fz x1 h) h) ρ hρ hp X K hr hk hl hw
    · rw [if_pos g] at hρ
      have hp := hp.1 g
      refine lv_iconst (v := (0 : Int32)) X.1 X.2.1 d_V_deliver_25 (by decide) ?_
      exact r_iret X hr hk hw ⟨congrArg (fun z => some (Value.int z.1)) hρ, (congrArg Prod.snd hρ).symm⟩ d_V_deliver_26
  · rw [if_pos g] at hρ
    have hp := hp.1 g
    refine lv_iconst (v := (0 : Int32)) X.1 X.2.1 d_V_deliver_7 (by decide) ?_
    exact r_iret X hr hk hw ⟨congrArg (fun z => some (Value.int z.1)) hρ, (congrArg Prod.snd hρ).symm⟩ d_V_deliver_8
set_option maxRecDepth 100000 in
theorem c_V_deliver (l : Launch) (D : va_G) (cI cZ : ClassId) (base : Nat) (ad : Nat → Nat) (fz : Nat) (x1 : Int32) (h : HH) (hp : P_V_deliver fz x1 h) : Ct l D cI cZ base ad y_V_deliver b_V_deliver 6 (some .int) 5 113 [.ref (ad 0), .int x1] h (pIH (B_V_deliver fz x1 h)) := by
  refine Ct.of (by decide) (Nat.le_of_ble_eq_true rfl) (cat_ok rfl) ?_
  intro p e s m args below meth c ls X K hr hk hl hw
  exact w_V_deliver fz x1 h _ rfl hp X K hr hk hl hw
set_option maxHeartbeats 4000000 in
set_option maxRecDepth 100000 in
theorem w_L_numberAt (fz : Nat) (i0 : Nat) (n0 : isN i0) (x1 : Int32) (h : HH) (ρ : Int32) (hρ : B_L_numberAt fz i0 x1 h = ρ) (hp : P_L_numberAt fz i0 x1 h) (X : CallFix p m c b_L_numberAt 2 s args TB R_L) (K : KK D cI cZ s) (hr : meth.sig.returnType = (some .int)) (hk : meth.locks = false) {ls : Array Slot} {H : Heap} {locs : List Loc} (hl : Lc ls 2 [some (.ref (ad (i0 + 8))), some (.int x1)]) (hw : Hw D cI cZ base ad s shape h H locs) : W p l e (rmD 0 0) s m args below meth c H locs 0 0 (MQ below (Qw D cI cZ base ad (pI h ρ)) args s 0 0 (fun q => base ≤ q)) (F0 m 0 ls []) := by
  unfold B_L_numberAt at hρ
  unfold P_L_numberAt at hp
  refine lv_iload_n X.1 X.2.1 d_L_numberAt_0 rfl (hl.at 1 rfl) ?_
  refine lv_if_lt (tgt := 21) X.1 X.2.1 d_L_numberAt_1 (by decide) (fun g => ?_) (fun g => ?_)
  · rw [if_pos g] at hρ
    have hp := hp.1 g
    refine lv_iconst (v := (0 : Int32)) X.1 X.2.1 d_L_numberAt_21 (by decide) ?_
    exact r_iret X hr hk hw ⟨congrArg (fun z => some (Value.int z)) hρ, rfl⟩ d_L_numberAt_22
  · rw [if_neg g] at hρ
    have hp := hp.2 g
    refine lv_iload_n X.1 X.2.1 d_L_numberAt_4 rfl (hl.at 1 rfl) ?_
    refine lv_aload_n X.1 X.2.1 d_L_numberAt_5 rfl (hl.at 0 rfl) ?_
    refine r_geti X K hw fg_L_15 (shp_L n0) rfl d_L_numberAt_6 ?_
    refine lv_icmp_ge (tgt := 21) X.1 X.2.1 d_L_numberAt_9 (by decide) (fun g => ?_) (fun g => ?_)
    · rw [if_pos g] at hρ
      have hp := hp.1 g
      refine lv_iconst (v := (0 : Int32)) X.1 X.2.1 d_L_numberAt_21 (by decide) ?_
      exact r_iret X hr hk hw ⟨congrArg (fun z => some (Value.int z)) hρ, rfl⟩ d_L_numberAt_22
    · rw [if_neg g] at hρ
      have hp := hp.2 g
      refine lv_aload_n X.1 X.2.1 d_L_numberAt_12 rfl (hl.at 0 rfl) ?_
      refine r_getr (j := (i0 + 9)) X K hw fg_L_9 (shp_L n0) rfl d_L_numberAt_13 ?_
      refine lv_iload_n X.1 X.2.1 d_L_numberAt_16 rfl (hl.at 1 rfl) ?_
      refine r_ald X K hw (sha_9 n0) hp.1 d_L_numberAt_17 ?_
      have hp := hp.2
      refine lv_goto (tgt := 22) X.1 X.2.1 d_L_numberAt_18 (by decide) ?_
      exact r_iret X hr hk hw ⟨congrArg (fun z => some (Value.int z)) hρ, rfl⟩ d_L_numberAt_22
set_option maxRecDepth 100000 in
theorem c_L_numberAt (l : Launch) (D : va_G) (cI cZ : ClassId) (base : Nat) (ad : Nat → Nat) (fz : Nat) (i0 : Nat) (n0 : isN i0) (x1 : Int32) (h : HH) (hp : P_L_numberAt fz i0 x1 h) : Ct l D cI cZ base ad y_L_numberAt b_L_numberAt 2 (some .int) 0 0 [.ref (ad (i0 + 8)), .int x1] h (pI h (B_L_numberAt fz i0 x1 h)) := by
  refine Ct.of (by decide) (Nat.le_of_ble_eq_true rfl) (cat_ok rfl) ?_
  intro p e s m args below meth c ls X K hr hk hl hw
  exact w_L_numberAt fz i0 n0 x1 h _ rfl hp X K hr hk hl hw
set_option maxHeartbeats 4000000 in
set_option maxRecDepth 100000 in
theorem w_L_remove_15 (X : CallFix p m c b_L_remove 3 s args TB R_L) (K : KK D cI cZ s) (hr : meth.sig.returnType = none) (hk : meth.locks = false) (fz : Nat) : ∀ (fu : Nat) (i0 : Nat) (n0 : isN i0) (x2 : Int32) (h : HH) (ρ : HH) (_ : B_L_remove_15 fz fu i0 x2 h = ρ) (_ : P_L_remove_15 fz fu i0 x2 h) {ls : Array Slot} {H : Heap} {locs : List Loc} (_ : Lc ls 3 [some (.ref (ad (i0 + 8))), none, some (.int x2)]) (_ : Hw D cI cZ base ad s shape h H locs), W p l e (rmD 0 0) s m args below meth c H locs 0 0 (MQ below (Qw D cI cZ base ad (pH ρ)) args s 0 0 (fun q => base ≤ q)) (F0 m 15 ls []) := by
  intro fu
  induction fu with
  | zero =>
    intro i0 n0 x2 h ρ hρ hp ls H locs hl hw
    exact hp.elim
  | succ fu ih =>
    intro i0 n0 x2 h ρ hρ hp ls H locs hl hw
    rw [B_L_remove_15] at hρ
    rw [P_L_remove_15] at hp
    refine lv_iload_n X.1 X.2.1 d_L_remove_15 rfl (hl.at 2 rfl) ?_
    refine lv_aload_n X.1 X.2.1 d_L_remove_16 rfl (hl.at 0 rfl) ?_
    refine r_geti X K hw fg_L_15 (shp_L n0) rfl d_L_remove_17 ?_
    refine lv_iconst (v := (1 : Int32)) X.1 X.2.1 d_L_remove_20 (by decide) ?_
    refine lv_isub X.1 X.2.1 d_L_remove_21 ?_
    refine lv_icmp_ge (tgt := 45) X.1 X.2.1 d_L_remove_22 (by decide) (fun g => ?_) (fun g => ?_)
    · rw [if_pos g] at hρ
      have hp := hp.1 g
      refine lv_aload_n X.1 X.2.1 d_L_remove_45 rfl (hl.at 0 rfl) ?_
      refine lv_dup X.1 X.2.1 d_L_remove_46 rfl ?_
      refine r_geti X K hw fg_L_15 (shp_L n0) rfl d_L_remove_47 ?_
      refine lv_iconst (v := (1 : Int32)) X.1 X.2.1 d_L_remove_50 (by decide) ?_
      refine lv_isub X.1 X.2.1 d_L_remove_51 ?_
      refine r_put X K hw fp_L_15 (shp_L n0) rfl rfl rfl d_L_remove_52 (fun H locs hw => ?_)
      exact r_vret X hr hk hw ⟨rfl, hρ.symm⟩ d_L_remove_55
    · rw [if_neg g] at hρ
      have hp := hp.2 g
      refine lv_aload_n X.1 X.2.1 d_L_remove_25 rfl (hl.at 0 rfl) ?_
      refine r_getr (j := (i0 + 9)) X K hw fg_L_9 (shp_L n0) rfl d_L_remove_26 ?_
      refine lv_iload_n X.1 X.2.1 d_L_remove_29 rfl (hl.at 2 rfl) ?_
      refine lv_aload_n X.1 X.2.1 d_L_remove_30 rfl (hl.at 0 rfl) ?_
      refine r_getr (j := (i0 + 9)) X K hw fg_L_9 (shp_L n0) rfl d_L_remove_31 ?_
      refine lv_iload_n X.1 X.2.1 d_L_remove_34 rfl (hl.at 2 rfl) ?_
      refine lv_iconst (v := (1 : Int32)) X.1 X.2.1 d_L_remove_35 (by decide) ?_
      refine lv_iadd X.1 X.2.1 d_L_remove_36 ?_
      refine r_ald X K hw (sha_9 n0) hp.1 d_L_remove_37 ?_
      have hp := hp.2
      refine r_ast X K hw (sha_9 n0) hp.1 d_L_remove_38 (fun H locs hw => ?_)
      have hp := hp.2
      refine lv_iincL X.1 X.2.1 hl (v := (x2 + 1)) d_L_remove_39 rfl (congrArg (fun z => x2 + z) (by decide)) (by decide) (fun ls hl => ?_)
      have hl : Lc ls 3 [some (.ref (ad (i0 + 8))), none, some (.int (x2 + 1))] := hl
      refine lv_goto (tgt := 15) X.1 X.2.1 d_L_remove_42 (by decide) ?_
      exact ih i0 n0 (x2 + 1) (u2 h (i0 + 9) (ix x2) (h (i0 + 9) (ix (x2 + (1 : Int32))))) ρ hρ hp hl hw
set_option maxHeartbeats 4000000 in
set_option maxRecDepth 100000 in
theorem w_L_remove (fz : Nat) (i0 : Nat) (n0 : isN i0) (x1 : Int32) (h : HH) (ρ : HH) (hρ : B_L_remove fz i0 x1 h = ρ) (hp : P_L_remove fz i0 x1 h) (X : CallFix p m c b_L_remove 3 s args TB R_L) (K : KK D cI cZ s) (hr : meth.sig.returnType = none) (hk : meth.locks = false) {ls : Array Slot} {H : Heap} {locs : List Loc} (hl : Lc ls 3 [some (.ref (ad (i0 + 8))), some (.int x1), none]) (hw : Hw D cI cZ base ad s shape h H locs) : W p l e (rmD 0 0) s m args below meth c H locs 0 0 (MQ below (Qw D cI cZ base ad (pH ρ)) args s 0 0 (fun q => base ≤ q)) (F0 m 0 ls []) := by
  unfold B_L_remove at hρ
  unfold P_L_remove at hp
  refine lv_iload_n X.1 X.2.1 d_L_remove_0 rfl (hl.at 1 rfl) ?_
  refine lv_if_lt (tgt := 12) X.1 X.2.1 d_L_remove_1 (by decide) (fun g => ?_) (fun g => ?_)
  · rw [if_pos g] at hρ
    have hp := hp.1 g
    exact r_vret X hr hk hw ⟨rfl, hρ.symm⟩ d_L_remove_12
  · rw [if_neg g] at hρ
    have hp := hp.2 g
    refine lv_iload_n X.1 X.2.1 d_L_remove_4 rfl (hl.at 1 rfl) ?_
    refine lv_aload_n X.1 X.2.1 d_L_remove_5 rfl (hl.at 0 rfl) ?_
    refine r_geti X K hw fg_L_15 (shp_L n0) rfl d_L_remove_6 ?_
    refine lv_icmp_lt (tgt := 13) X.1 X.2.1 d_L_remove_9 (by decide) (fun g => ?_) (fun g => ?_)
    · rw [if_pos g] at hρ
      have hp := hp.1 g
      refine lv_iload_n X.1 X.2.1 d_L_remove_13 rfl (hl.at 1 rfl) ?_
      refine r_istore_n X hl d_L_remove_14 rfl (by decide) (fun ls hl => ?_)
      have hl : Lc ls 3 [some (.ref (ad (i0 + 8))), some (.int x1), some (.int x1)] := hl
      have hl : Lc ls 3 [some (.ref (ad (i0 + 8))), none, some (.int x1)] := hl.mask [true, false, true]
      exact w_L_remove_15 X K hr hk fz fz i0 n0 x1 h ρ hρ hp hl hw
    · rw [if_neg g] at hρ
      have hp := hp.2 g
      exact r_vret X hr hk hw ⟨rfl, hρ.symm⟩ d_L_remove_12
set_option maxRecDepth 100000 in
theorem c_L_remove (l : Launch) (D : va_G) (cI cZ : ClassId) (base : Nat) (ad : Nat → Nat) (fz : Nat) (i0 : Nat) (n0 : isN i0) (x1 : Int32) (h : HH) (hp : P_L_remove fz i0 x1 h) : Ct l D cI cZ base ad y_L_remove b_L_remove 3 none 0 0 [.ref (ad (i0 + 8)), .int x1] h (pH (B_L_remove fz i0 x1 h)) := by
  refine Ct.of (by decide) (Nat.le_of_ble_eq_true rfl) (cat_ok rfl) ?_
  intro p e s m args below meth c ls X K hr hk hl hw
  exact w_L_remove fz i0 n0 x1 h _ rfl hp X K hr hk hl hw
set_option maxHeartbeats 4000000 in
set_option maxRecDepth 100000 in
theorem w_V_store_104 (fz : Nat) (i3 : Nat) (n3 : isN i3) (x5 : Int32) (h : HH) (ρ : Int32 × HH) (hρ : B_V_store_104 fz i3 x5 h = ρ) (hp : P_V_store_104 fz i3 x5 h) (X : CallFix p m c b_V_store 6 s args TB R_V) (K : KK D cI cZ s) (hr : meth.sig.returnType = (some .int)) (hk : meth.locks = false) {ls : Array Slot} {H : Heap} {locs : List Loc} (hl : Lc ls 6 [none, none, none, some (.ref (ad i3)), none, some (.int x5)]) (hw : Hw D cI cZ base ad s shape h H locs) : W p l e (rmD 1 24) s m args below meth c H locs 0 0 (MQ below (Qw D cI cZ base ad (pIH ρ)) args s 0 0 (fun q => base ≤ q)) (F0 m 104 ls []) := by
  unfold B_V_store_104 at hρ
  unfold P_V_store_104 at hp
  refine lv_aload_n X.1 X.2.1 d_V_store_104 rfl (hl.at 3 rfl) ?_
  refine r_getr (j := (i3 + 4)) X K hw fg_V_94 (shp_N n3) rfl d_V_store_105 ?_
  refine lv_iconst (v := (2 : Int32)) X.1 X.2.1 d_V_store_108 (by decide) ?_
  refine lv_iload X.1 X.2.1 d_V_store_109 (hl.at 5 rfl) ?_
  refine lv_iconst (v := (0 : Int32)) X.1 X.2.1 d_V_store_111 (by decide) ?_
  refine r_callV (rest := []) X K hw hl.1 mf_V_98 (shp_O n3) rfl rfl (c_O_send l D cI cZ base ad fz i3 n3 (2 : Int32) x5 (0 : Int32) h hp.1) (by decide) ⟨Nat.le_refl _, Nat.le_refl _⟩ rfl rfl (Nat.le_of_ble_eq_true rfl) d_V_store_112 (fun v h' H locs q hw => ?_)
  obtain ⟨rfl, rfl⟩ := q
  have hp := hp.2
  refine lv_iload X.1 X.2.1 d_V_store_115 (hl.at 5 rfl) ?_
  exact r_iret X hr hk hw ⟨congrArg (fun z => some (Value.int z.1)) hρ, (congrArg Prod.snd hρ).symm⟩ d_V_store_117
set_option maxHeartbeats 4000000 in
set_option maxRecDepth 100000 in
theorem w_V_store_79 (fz : Nat) (i3 : Nat) (n3 : isN i3) (x5 : Int32) (h : HH) (ρ : Int32 × HH) (hρ : B_V_store_79 fz i3 x5 h = ρ) (hp : P_V_store_79 fz i3 x5 h) (X : CallFix p m c b_V_store 6 s args TB R_V) (K : KK D cI cZ s) (hr : meth.sig.returnType = (some .int)) (hk : meth.locks = false) {ls : Array Slot} {H : Heap} {locs : List Loc} (hl : Lc ls 6 [some (.ref (ad 0)), none, none, some (.ref (ad i3)), none, some (.int x5)]) (hw : Hw D cI cZ base ad s shape h H locs) : W p l e (rmD 1 24) s m args below meth c H locs 0 0 (MQ below (Qw D cI cZ base ad (pIH ρ)) args s 0 0 (fun q => base ≤ q)) (F0 m 79 ls []) := by
  unfold B_V_store_79 at hρ
  unfold P_V_store_79 at hp
  refine lv_aload_n X.1 X.2.1 d_V_store_79 rfl (hl.at 3 rfl) ?_
  refine r_getr (j := (i3 + 1)) X K hw fg_V_78 (shp_N n3) rfl d_V_store_80 ?_
  refine lv_aload_n X.1 X.2.1 d_V_store_83 rfl (hl.at 0 rfl) ?_
  refine r_getr (j := 21) X K hw fg_V_24 rfl rfl d_V_store_84 ?_
  refine r_getr (j := 23) X K hw fg_V_149 rfl rfl d_V_store_87 ?_
  refine lv_iload X.1 X.2.1 d_V_store_90 (hl.at 5 rfl) ?_
  refine r_ald X K hw rfl hp.1 d_V_store_92 ?_
  have hp := hp.2
  refine lv_aload_n X.1 X.2.1 d_V_store_93 rfl (hl.at 0 rfl) ?_
  refine r_getr (j := 21) X K hw fg_V_24 rfl rfl d_V_store_94 ?_
  refine r_getr (j := 24) X K hw fg_V_152 rfl rfl d_V_store_97 ?_
  refine lv_iload X.1 X.2.1 d_V_store_100 (hl.at 5 rfl) ?_
  refine r_ald X K hw rfl hp.1 d_V_store_102 ?_
  have hp := hp.2
  refine r_ast X K hw (sha_1 n3) hp.1 d_V_store_103 (fun H locs hw => ?_)
  have hp := hp.2
  have hl : Lc ls 6 [none, none, none, some (.ref (ad i3)), none, some (.int x5)] := hl.mask [false, false, false, true, false, true]
  exact w_V_store_104 fz i3 n3 x5 (u2 h (i3 + 1) (ix (h 23 (ix x5))) (h 24 (ix x5))) ρ hρ hp X K hr hk hl hw
set_option maxHeartbeats 4000000 in
set_option maxRecDepth 100000 in
theorem w_V_store (fz : Nat) (x1 : Int32) (x2 : Int32) (h : HH) (ρ : Int32 × HH) (hρ : B_V_store fz x1 x2 h = ρ) (hp : P_V_store fz x1 x2 h) (X : CallFix p m c b_V_store 6 s args TB R_V) (K : KK D cI cZ s) (hr : meth.sig.returnType = (some .int)) (hk : meth.locks = false) {ls : Array Slot} {H : Heap} {locs : List Loc} (hl : Lc ls 6 [some (.ref (ad 0)), some (.int x1), some (.int x2), none, none, none]) (hw : Hw D cI cZ base ad s shape h H locs) : W p l e (rmD 1 24) s m args below meth c H locs 0 0 (MQ below (Qw D cI cZ base ad (pIH ρ)) args s 0 0 (fun q => base ≤ q)) (F0 m 0 ls []) := by
  unfold B_V_store at hρ
  unfold P_V_store at hp
  refine lv_iload_n X.1 X.2.1 d_V_store_0 rfl (hl.at 1 rfl) ?_
  refine r_callS (rest := []) X K hw hl.1 mf_V_36 (c_V_isNode l D cI cZ base ad fz x1 h hp.1) (by decide) ⟨Nat.le_refl _, Nat.le_refl _⟩ rfl rfl (Nat.le_of_ble_eq_true rfl) d_V_store_1 (fun v h' H locs q hw => ?_)
  obtain ⟨rfl, rfl⟩ := q
  have hp := hp.2
  refine lv_if_ne (tgt := 9) X.1 X.2.1 d_V_store_4 (by decide) (fun g => ?_) (fun g => ?_)
  · rw [if_neg g] at hρ
    have hp := hp.2 g
    refine lv_aload_n X.1 X.2.1 d_V_store_9 rfl (hl.at 0 rfl) ?_
    refine lv_iload_n X.1 X.2.1 d_V_store_10 rfl (hl.at 1 rfl) ?_
    refine r_callV (rest := []) X K hw hl.1 mf_V_43 rfl rfl rfl (c_V_nodeOf l D cI cZ base ad fz x1 h hp.1) (by decide) ⟨Nat.le_refl _, Nat.le_refl _⟩ rfl rfl (Nat.le_of_ble_eq_true rfl) d_V_store_11 (fun v h' H locs q hw => ?_)
    obtain ⟨rfl, rfl⟩ := q
    have hp := hp.2
    refine r_astore_n X hl d_V_store_14 rfl (by decide) (fun ls hl => ?_)
    have hl : Lc ls 6 [some (.ref (ad 0)), some (.int x1), some (.int x2), some (.ref (ad (B_V_nodeOf fz x1 h))), none, none] := hl
    refine lv_aload_n X.1 X.2.1 d_V_store_15 rfl (hl.at 3 rfl) ?_
    refine r_getr (j := ((B_V_nodeOf fz x1 h) + 8)) X K hw fg_V_133 (shp_N (isN_V_nodeOf fz x1 h)) rfl d_V_store_16 ?_
    refine r_astore X hl d_V_store_19 (by decide) (fun ls hl => ?_)
    have hl : Lc ls 6 [some (.ref (ad 0)), some (.int x1), some (.int x2), some (.ref (ad (B_V_nodeOf fz x1 h))), some (.ref (ad ((B_V_nodeOf fz x1 h) + 8))), none] := hl
    refine lv_iload_n X.1 X.2.1 d_V_store_21 rfl (hl.at 2 rfl) ?_
    refine lv_if_lt (tgt := 34) X.1 X.2.1 d_V_store_22 (by decide) (fun g => ?_) (fun g => ?_)
    · rw [if_pos g] at hρ
      have hp := hp.1 g
      refine lv_iconst (v := (0 : Int32)) X.1 X.2.1 d_V_store_34 (by decide) ?_
      exact r_iret X hr hk hw ⟨congrArg (fun z => some (Value.int z.1)) hρ, (congrArg Prod.snd hρ).symm⟩ d_V_store_35
    · rw [if_neg g] at hρ
      have hp := hp.2 g
      refine lv_iload_n X.1 X.2.1 d_V_store_25 rfl (hl.at 2 rfl) ?_
      refine lv_aload X.1 X.2.1 d_V_store_26 (hl.at 4 rfl) ?_
      refine r_geti X K hw fg_V_137 (shp_L (isN_V_nodeOf fz x1 h)) rfl d_V_store_28 ?_
      refine lv_icmp_lt (tgt := 36) X.1 X.2.1 d_V_store_31 (by decide) (fun g => ?_) (fun g => ?_)
      · rw [if_pos g] at hρ
        have hp := hp.1 g
        refine lv_aload X.1 X.2.1 d_V_store_36 (hl.at 4 rfl) ?_
        refine lv_iload_n X.1 X.2.1 d_V_store_38 rfl (hl.at 2 rfl) ?_
        refine r_callV (rest := []) X K hw hl.1 mf_V_140 (shp_L (isN_V_nodeOf fz x1 h)) rfl rfl (c_L_numberAt l D cI cZ base ad fz (B_V_nodeOf fz x1 h) (isN_V_nodeOf fz x1 h) x2 h hp.1) (by decide) ⟨Nat.le_refl _, Nat.le_refl _⟩ rfl rfl (Nat.le_of_ble_eq_true rfl) d_V_store_39 (fun v h' H locs q hw => ?_)
        obtain ⟨rfl, rfl⟩ := q
        have hp := hp.2
        refine r_istore X hl d_V_store_42 (by decide) (fun ls hl => ?_)
        have hl : Lc ls 6 [some (.ref (ad 0)), some (.int x1), some (.int x2), some (.ref (ad (B_V_nodeOf fz x1 h))), some (.ref (ad ((B_V_nodeOf fz x1 h) + 8))), some (.int (B_L_numberAt fz (B_V_nodeOf fz x1 h) x2 h))] := hl
        refine lv_aload_n X.1 X.2.1 d_V_store_44 rfl (hl.at 0 rfl) ?_
        refine r_getr (j := 21) X K hw fg_V_24 rfl rfl d_V_store_45 ?_
        refine r_getr (j := 25) X K hw fg_V_143 rfl rfl d_V_store_48 ?_
        refine lv_iload X.1 X.2.1 d_V_store_51 (hl.at 5 rfl) ?_
        refine r_ald X K hw rfl hp.1 d_V_store_53 ?_
        have hp := hp.2
        refine lv_aload_n X.1 X.2.1 d_V_store_54 rfl (hl.at 0 rfl) ?_
        refine r_getr (j := 21) X K hw fg_V_24 rfl rfl d_V_store_55 ?_
        refine r_getr (j := 25) X K hw fg_V_143 rfl rfl d_V_store_58 ?_
        refine lv_aload X.1 X.2.1 d_V_store_61 (hl.at 4 rfl) ?_
        refine lv_iconst (v := (0 : Int32)) X.1 X.2.1 d_V_store_63 (by decide) ?_
        refine r_callV (rest := [.ref (ad 25), .int (h 25 (ix (B_L_numberAt fz (B_V_nodeOf fz x1 h) x2 h)))]) X K hw hl.1 mf_V_140 (shp_L (isN_V_nodeOf fz x1 h)) rfl rfl (c_L_numberAt l D cI cZ base ad fz (B_V_nodeOf fz x1 h) (isN_V_nodeOf fz x1 h) (0 : Int32) h hp.1) (by decide) ⟨Nat.le_refl _, Nat.le_refl _⟩ rfl rfl (Nat.le_of_ble_eq_true rfl) d_V_store_64 (fun v h' H locs q hw => ?_)
        obtain ⟨rfl, rfl⟩ := q
        have hp := hp.2
        refine r_ald X K hw rfl hp.1 d_V_store_67 ?_
        have hp := hp.2
        refine lv_icmp_eq (tgt := 73) X.1 X.2.1 d_V_store_68 (by decide) (fun g => ?_) (fun g => ?_)
        · rw [if_pos g] at hρ
          have hp := hp.1 g
          refine lv_aload X.1 X.2.1 d_V_store_73 (hl.at 4 rfl) ?_
          refine lv_iload_n X.1 X.2.1 d_V_store_75 rfl (hl.at 2 rfl) ?_
          refine r_callV (rest := []) X K hw hl.1 mf_V_146 (shp_L (isN_V_nodeOf fz x1 h)) rfl rfl (c_L_remove l D cI cZ base ad fz (B_V_nodeOf fz x1 h) (isN_V_nodeOf fz x1 h) x2 h hp.1) (by decide) ⟨Nat.le_refl _, Nat.le_refl _⟩ rfl rfl (Nat.le_of_ble_eq_true rfl) d_V_store_76 (fun v h' H locs q hw => ?_)
          obtain ⟨rfl, rfl⟩ := q
          have hp := hp.2
          have hl : Lc ls 6 [some (.ref (ad 0)), none, none, some (.ref (ad (B_V_nodeOf fz x1 h))), none, some (.int (B_L_numberAt fz (B_V_nodeOf fz x1 h) x2 h))] := hl.mask [true, false, false, true, false, true]
          exact w_V_store_79 fz (B_V_nodeOf fz x1 h) (isN_V_nodeOf fz x1 h) (B_L_numberAt fz (B_V_nodeOf fz x1 h) x2 h) (B_L_remove fz (B_V_nodeOf fz x1 h) x2 h) ρ hρ hp X K hr hk hl hw
        · rw [if_neg g] at hρ
          have hp := hp.2 g
          refine lv_iconst (v := (0 : Int32)) X.1 X.2.1 d_V_store_71 (by decide) ?_
          exact r_iret X hr hk hw ⟨congrArg (fun z => some (Value.int z.1)) hρ, (congrArg Prod.snd hρ).symm⟩ d_V_store_72
      · rw [if_neg g] at hρ
        have hp := hp.2 g
        refine lv_iconst (v := (0 : Int32)) X.1 X.2.1 d_V_store_34 (by decide) ?_
        exact r_iret X hr hk hw ⟨congrArg (fun z => some (Value.int z.1)) hρ, (congrArg Prod.snd hρ).symm⟩ d_V_store_35
  · rw [if_pos g] at hρ
    have hp := hp.1 g
    refine lv_iconst (v := (0 : Int32)) X.1 X.2.1 d_V_store_7 (by decide) ?_
    exact r_iret X hr hk hw ⟨congrArg (fun z => some (Value.int z.1)) hρ, (congrArg Prod.snd hρ).symm⟩ d_V_store_8
set_option maxRecDepth 100000 in
theorem c_V_store (l : Launch) (D : va_G) (cI cZ : ClassId) (base : Nat) (ad : Nat → Nat) (fz : Nat) (x1 : Int32) (x2 : Int32) (h : HH) (hp : P_V_store fz x1 x2 h) : Ct l D cI cZ base ad y_V_store b_V_store 6 (some .int) 1 24 [.ref (ad 0), .int x1, .int x2] h (pIH (B_V_store fz x1 x2 h)) := by
  refine Ct.of (by decide) (Nat.le_of_ble_eq_true rfl) (cat_ok rfl) ?_
  intro p e s m args below meth c ls X K hr hk hl hw
  exact w_V_store fz x1 x2 h _ rfl hp X K hr hk hl hw
set_option maxHeartbeats 4000000 in
set_option maxRecDepth 100000 in
theorem w_I_bitCount (fz : Nat) (x0 : Int32) (h : HH) (ρ : Int32) (hρ : B_I_bitCount fz x0 h = ρ) (hp : P_I_bitCount fz x0 h) (X : CallFix p m c b_I_bitCount 1 s args TB R_I) (K : KK D cI cZ s) (hr : meth.sig.returnType = (some .int)) (hk : meth.locks = false) {ls : Array Slot} {H : Heap} {locs : List Loc} (hl : Lc ls 1 [some (.int x0)]) (hw : Hw D cI cZ base ad s shape h H locs) : W p l e (rmD 0 0) s m args below meth c H locs 0 0 (MQ below (Qw D cI cZ base ad (pI h ρ)) args s 0 0 (fun q => base ≤ q)) (F0 m 0 ls []) := by
  unfold B_I_bitCount at hρ
  unfold P_I_bitCount at hp
  refine lv_iload_n X.1 X.2.1 d_I_bitCount_0 rfl (hl.at 0 rfl) ?_
  refine lv_iload_n X.1 X.2.1 d_I_bitCount_1 rfl (hl.at 0 rfl) ?_
  refine lv_iconst (v := (1 : Int32)) X.1 X.2.1 d_I_bitCount_2 (by decide) ?_
  refine lv_iushr X.1 X.2.1 d_I_bitCount_3 rfl ?_
  refine lv_ldcw X.1 X.2.1 X.2.2.2.1 (X.2.2.2.2 _ kc_I_265) d_I_bitCount_4 ?_
  refine lv_iand X.1 X.2.1 d_I_bitCount_7 ?_
  refine lv_isub X.1 X.2.1 d_I_bitCount_8 ?_
  refine r_istore_n X hl d_I_bitCount_9 rfl (by decide) (fun ls hl => ?_)
  have hl : Lc ls 1 [some (.int (x0 - ((((x0).toUInt32 >>> (((1 : Int32)).toUInt32 &&& Int32.toUInt32 31)).toInt32) &&& (1431655765 : Int32))))] := hl
  refine lv_iload_n X.1 X.2.1 d_I_bitCount_10 rfl (hl.at 0 rfl) ?_
  refine lv_ldcw X.1 X.2.1 X.2.2.2.1 (X.2.2.2.2 _ kc_I_266) d_I_bitCount_11 ?_
  refine lv_iand X.1 X.2.1 d_I_bitCount_14 ?_
  refine lv_iload_n X.1 X.2.1 d_I_bitCount_15 rfl (hl.at 0 rfl) ?_
  refine lv_iconst (v := (2 : Int32)) X.1 X.2.1 d_I_bitCount_16 (by decide) ?_
  refine lv_iushr X.1 X.2.1 d_I_bitCount_17 rfl ?_
  refine lv_ldcw X.1 X.2.1 X.2.2.2.1 (X.2.2.2.2 _ kc_I_266) d_I_bitCount_18 ?_
  refine lv_iand X.1 X.2.1 d_I_bitCount_21 ?_
  refine lv_iadd X.1 X.2.1 d_I_bitCount_22 ?_
  refine r_istore_n X hl d_I_bitCount_23 rfl (by decide) (fun ls hl => ?_)
  have hl : Lc ls 1 [some (.int (((x0 - ((((x0).toUInt32 >>> (((1 : Int32)).toUInt32 &&& Int32.toUInt32 31)).toInt32) &&& (1431655765 : Int32))) &&& (858993459 : Int32)) + (((((x0 - ((((x0).toUInt32 >>> (((1 : Int32)).toUInt32 &&& Int32.toUInt32 31)).toInt32) &&& (1431655765 : Int32)))).toUInt32 >>> (((2 : Int32)).toUInt32 &&& Int32.toUInt32 31)).toInt32) &&& (858993459 : Int32))))] := hl
  refine lv_iload_n X.1 X.2.1 d_I_bitCount_24 rfl (hl.at 0 rfl) ?_
  refine lv_iload_n X.1 X.2.1 d_I_bitCount_25 rfl (hl.at 0 rfl) ?_
  refine lv_iconst (v := (4 : Int32)) X.1 X.2.1 d_I_bitCount_26 (by decide) ?_
  refine lv_iushr X.1 X.2.1 d_I_bitCount_27 rfl ?_
  refine lv_iadd X.1 X.2.1 d_I_bitCount_28 ?_
  refine lv_ldcw X.1 X.2.1 X.2.2.2.1 (X.2.2.2.2 _ kc_I_267) d_I_bitCount_29 ?_
  refine lv_iand X.1 X.2.1 d_I_bitCount_32 ?_
  refine r_istore_n X hl d_I_bitCount_33 rfl (by decide) (fun ls hl => ?_)
  have hl : Lc ls 1 [some (.int (((((x0 - ((((x0).toUInt32 >>> (((1 : Int32)).toUInt32 &&& Int32.toUInt32 31)).toInt32) &&& (1431655765 : Int32))) &&& (858993459 : Int32)) + (((((x0 - ((((x0).toUInt32 >>> (((1 : Int32)).toUInt32 &&& Int32.toUInt32 31)).toInt32) &&& (1431655765 : Int32)))).toUInt32 >>> (((2 : Int32)).toUInt32 &&& Int32.toUInt32 31)).toInt32) &&& (858993459 : Int32))) + ((((((x0 - ((((x0).toUInt32 >>> (((1 : Int32)).toUInt32 &&& Int32.toUInt32 31)).toInt32) &&& (1431655765 : Int32))) &&& (858993459 : Int32)) + (((((x0 - ((((x0).toUInt32 >>> (((1 : Int32)).toUInt32 &&& Int32.toUInt32 31)).toInt32) &&& (1431655765 : Int32)))).toUInt32 >>> (((2 : Int32)).toUInt32 &&& Int32.toUInt32 31)).toInt32) &&& (858993459 : Int32)))).toUInt32 >>> (((4 : Int32)).toUInt32 &&& Int32.toUInt32 31)).toInt32)) &&& (252645135 : Int32)))] := hl
  refine lv_iload_n X.1 X.2.1 d_I_bitCount_34 rfl (hl.at 0 rfl) ?_
  refine lv_iload_n X.1 X.2.1 d_I_bitCount_35 rfl (hl.at 0 rfl) ?_
  refine lv_bipush (v := (8 : Int32)) X.1 X.2.1 d_I_bitCount_36 (by decide) ?_
  refine lv_iushr X.1 X.2.1 d_I_bitCount_38 rfl ?_
  refine lv_iadd X.1 X.2.1 d_I_bitCount_39 ?_
  refine r_istore_n X hl d_I_bitCount_40 rfl (by decide) (fun ls hl => ?_)
  have hl : Lc ls 1 [some (.int ((((((x0 - ((((x0).toUInt32 >>> (((1 : Int32)).toUInt32 &&& Int32.toUInt32 31)).toInt32) &&& (1431655765 : Int32))) &&& (858993459 : Int32)) + (((((x0 - ((((x0).toUInt32 >>> (((1 : Int32)).toUInt32 &&& Int32.toUInt32 31)).toInt32) &&& (1431655765 : Int32)))).toUInt32 >>> (((2 : Int32)).toUInt32 &&& Int32.toUInt32 31)).toInt32) &&& (858993459 : Int32))) + ((((((x0 - ((((x0).toUInt32 >>> (((1 : Int32)).toUInt32 &&& Int32.toUInt32 31)).toInt32) &&& (1431655765 : Int32))) &&& (858993459 : Int32)) + (((((x0 - ((((x0).toUInt32 >>> (((1 : Int32)).toUInt32 &&& Int32.toUInt32 31)).toInt32) &&& (1431655765 : Int32)))).toUInt32 >>> (((2 : Int32)).toUInt32 &&& Int32.toUInt32 31)).toInt32) &&& (858993459 : Int32)))).toUInt32 >>> (((4 : Int32)).toUInt32 &&& Int32.toUInt32 31)).toInt32)) &&& (252645135 : Int32)) + ((((((((x0 - ((((x0).toUInt32 >>> (((1 : Int32)).toUInt32 &&& Int32.toUInt32 31)).toInt32) &&& (1431655765 : Int32))) &&& (858993459 : Int32)) + (((((x0 - ((((x0).toUInt32 >>> (((1 : Int32)).toUInt32 &&& Int32.toUInt32 31)).toInt32) &&& (1431655765 : Int32)))).toUInt32 >>> (((2 : Int32)).toUInt32 &&& Int32.toUInt32 31)).toInt32) &&& (858993459 : Int32))) + ((((((x0 - ((((x0).toUInt32 >>> (((1 : Int32)).toUInt32 &&& Int32.toUInt32 31)).toInt32) &&& (1431655765 : Int32))) &&& (858993459 : Int32)) + (((((x0 - ((((x0).toUInt32 >>> (((1 : Int32)).toUInt32 &&& Int32.toUInt32 31)).toInt32) &&& (1431655765 : Int32)))).toUInt32 >>> (((2 : Int32)).toUInt32 &&& Int32.toUInt32 31)).toInt32) &&& (858993459 : Int32)))).toUInt32 >>> (((4 : Int32)).toUInt32 &&& Int32.toUInt32 31)).toInt32)) &&& (252645135 : Int32))).toUInt32 >>> (((8 : Int32)).toUInt32 &&& Int32.toUInt32 31)).toInt32)))] := hl
  refine lv_iload_n X.1 X.2.1 d_I_bitCount_41 rfl (hl.at 0 rfl) ?_
  refine lv_iload_n X.1 X.2.1 d_I_bitCount_42 rfl (hl.at 0 rfl) ?_
  refine lv_bipush (v := (16 : Int32)) X.1 X.2.1 d_I_bitCount_43 (by decide) ?_
  refine lv_iushr X.1 X.2.1 d_I_bitCount_45 rfl ?_
  refine lv_iadd X.1 X.2.1 d_I_bitCount_46 ?_
  refine r_istore_n X hl d_I_bitCount_47 rfl (by decide) (fun ls hl => ?_)
  have hl : Lc ls 1 [some (.int (((((((x0 - ((((x0).toUInt32 >>> (((1 : Int32)).toUInt32 &&& Int32.toUInt32 31)).toInt32) &&& (1431655765 : Int32))) &&& (858993459 : Int32)) + (((((x0 - ((((x0).toUInt32 >>> (((1 : Int32)).toUInt32 &&& Int32.toUInt32 31)).toInt32) &&& (1431655765 : Int32)))).toUInt32 >>> (((2 : Int32)).toUInt32 &&& Int32.toUInt32 31)).toInt32) &&& (858993459 : Int32))) + ((((((x0 - ((((x0).toUInt32 >>> (((1 : Int32)).toUInt32 &&& Int32.toUInt32 31)).toInt32) &&& (1431655765 : Int32))) &&& (858993459 : Int32)) + (((((x0 - ((((x0).toUInt32 >>> (((1 : Int32)).toUInt32 &&& Int32.toUInt32 31)).toInt32) &&& (1431655765 : Int32)))).toUInt32 >>> (((2 : Int32)).toUInt32 &&& Int32.toUInt32 31)).toInt32) &&& (858993459 : Int32)))).toUInt32 >>> (((4 : Int32)).toUInt32 &&& Int32.toUInt32 31)).toInt32)) &&& (252645135 : Int32)) + ((((((((x0 - ((((x0).toUInt32 >>> (((1 : Int32)).toUInt32 &&& Int32.toUInt32 31)).toInt32) &&& (1431655765 : Int32))) &&& (858993459 : Int32)) + (((((x0 - ((((x0).toUInt32 >>> (((1 : Int32)).toUInt32 &&& Int32.toUInt32 31)).toInt32) &&& (1431655765 : Int32)))).toUInt32 >>> (((2 : Int32)).toUInt32 &&& Int32.toUInt32 31)).toInt32) &&& (858993459 : Int32))) + ((((((x0 - ((((x0).toUInt32 >>> (((1 : Int32)).toUInt32 &&& Int32.toUInt32 31)).toInt32) &&& (1431655765 : Int32))) &&& (858993459 : Int32)) + (((((x0 - ((((x0).toUInt32 >>> (((1 : Int32)).toUInt32 &&& Int32.toUInt32 31)).toInt32) &&& (1431655765 : Int32)))).toUInt32 >>> (((2 : Int32)).toUInt32 &&& Int32.toUInt32 31)).toInt32) &&& (858993459 : Int32)))).toUInt32 >>> (((4 : Int32)).toUInt32 &&& Int32.toUInt32 31)).toInt32)) &&& (252645135 : Int32))).toUInt32 >>> (((8 : Int32)).toUInt32 &&& Int32.toUInt32 31)).toInt32)) + (((((((((x0 - ((((x0).toUInt32 >>> (((1 : Int32)).toUInt32 &&& Int32.toUInt32 31)).toInt32) &&& (1431655765 : Int32))) &&& (858993459 : Int32)) + (((((x0 - ((((x0).toUInt32 >>> (((1 : Int32)).toUInt32 &&& Int32.toUInt32 31)).toInt32) &&& (1431655765 : Int32)))).toUInt32 >>> (((2 : Int32)).toUInt32 &&& Int32.toUInt32 31)).toInt32) &&& (858993459 : Int32))) + ((((((x0 - ((((x0).toUInt32 >>> (((1 : Int32)).toUInt32 &&& Int32.toUInt32 31)).toInt32) &&& (1431655765 : Int32))) &&& (858993459 : Int32)) + (((((x0 - ((((x0).toUInt32 >>> (((1 : Int32)).toUInt32 &&& Int32.toUInt32 31)).toInt32) &&& (1431655765 : Int32)))).toUInt32 >>> (((2 : Int32)).toUInt32 &&& Int32.toUInt32 31)).toInt32) &&& (858993459 : Int32)))).toUInt32 >>> (((4 : Int32)).toUInt32 &&& Int32.toUInt32 31)).toInt32)) &&& (252645135 : Int32)) + ((((((((x0 - ((((x0).toUInt32 >>> (((1 : Int32)).toUInt32 &&& Int32.toUInt32 31)).toInt32) &&& (1431655765 : Int32))) &&& (858993459 : Int32)) + (((((x0 - ((((x0).toUInt32 >>> (((1 : Int32)).toUInt32 &&& Int32.toUInt32 31)).toInt32) &&& (1431655765 : Int32)))).toUInt32 >>> (((2 : Int32)).toUInt32 &&& Int32.toUInt32 31)).toInt32) &&& (858993459 : Int32))) + ((((((x0 - ((((x0).toUInt32 >>> (((1 : Int32)).toUInt32 &&& Int32.toUInt32 31)).toInt32) &&& (1431655765 : Int32))) &&& (858993459 : Int32)) + (((((x0 - ((((x0).toUInt32 >>> (((1 : Int32)).toUInt32 &&& Int32.toUInt32 31)).toInt32) &&& (1431655765 : Int32)))).toUInt32 >>> (((2 : Int32)).toUInt32 &&& Int32.toUInt32 31)).toInt32) &&& (858993459 : Int32)))).toUInt32 >>> (((4 : Int32)).toUInt32 &&& Int32.toUInt32 31)).toInt32)) &&& (252645135 : Int32))).toUInt32 >>> (((8 : Int32)).toUInt32 &&& Int32.toUInt32 31)).toInt32))).toUInt32 >>> (((16 : Int32)).toUInt32 &&& Int32.toUInt32 31)).toInt32)))] := hl
  refine lv_iload_n X.1 X.2.1 d_I_bitCount_48 rfl (hl.at 0 rfl) ?_
  refine lv_bipush (v := (63 : Int32)) X.1 X.2.1 d_I_bitCount_49 (by decide) ?_
  refine lv_iand X.1 X.2.1 d_I_bitCount_51 ?_
  exact r_iret X hr hk hw ⟨congrArg (fun z => some (Value.int z)) hρ, rfl⟩ d_I_bitCount_52
set_option maxRecDepth 100000 in
theorem c_I_bitCount (l : Launch) (D : va_G) (cI cZ : ClassId) (base : Nat) (ad : Nat → Nat) (fz : Nat) (x0 : Int32) (h : HH) (hp : P_I_bitCount fz x0 h) : Ct l D cI cZ base ad y_I_bitCount b_I_bitCount 1 (some .int) 0 0 [.int x0] h (pI h (B_I_bitCount fz x0 h)) := by
  refine Ct.of (by decide) (Nat.le_of_ble_eq_true rfl) (cat_ok rfl) ?_
  intro p e s m args below meth c ls X K hr hk hl hw
  exact w_I_bitCount fz x0 h _ rfl hp X K hr hk hl hw
set_option maxHeartbeats 4000000 in
set_option maxRecDepth 100000 in
theorem w_V_leastBlock_2 (X : CallFix p m c b_V_leastBlock 2 s args TB R_V) (K : KK D cI cZ s) (hr : meth.sig.returnType = (some .int)) (hk : meth.locks = false) (fz : Nat) : ∀ (fu : Nat) (x0 : Int32) (x1 : Int32) (h : HH) (ρ : Int32) (_ : B_V_leastBlock_2 fz fu x0 x1 h = ρ) (_ : P_V_leastBlock_2 fz fu x0 x1 h) {ls : Array Slot} {H : Heap} {locs : List Loc} (_ : Lc ls 2 [some (.int x0), some (.int x1)]) (_ : Hw D cI cZ base ad s shape h H locs), W p l e (rmD 1 21) s m args below meth c H locs 0 0 (MQ below (Qw D cI cZ base ad (pI h ρ)) args s 0 0 (fun q => base ≤ q)) (F0 m 2 ls []) := by
  intro fu
  induction fu with
  | zero =>
    intro x0 x1 h ρ hρ hp ls H locs hl hw
    exact hp.elim
  | succ fu ih =>
    intro x0 x1 h ρ hρ hp ls H locs hl hw
    rw [B_V_leastBlock_2] at hρ
    rw [P_V_leastBlock_2] at hp
    refine lv_iload_n X.1 X.2.1 d_V_leastBlock_2 rfl (hl.at 1 rfl) ?_
    refine lv_bipush (v := (32 : Int32)) X.1 X.2.1 d_V_leastBlock_3 (by decide) ?_
    refine lv_icmp_ge (tgt := 24) X.1 X.2.1 d_V_leastBlock_5 (by decide) (fun g => ?_) (fun g => ?_)
    · rw [if_pos g] at hρ
      have hp := hp.1 g
      refine lv_iconst (v := (-1 : Int32)) X.1 X.2.1 d_V_leastBlock_24 (by decide) ?_
      exact r_iret X hr hk hw ⟨congrArg (fun z => some (Value.int z)) hρ, rfl⟩ d_V_leastBlock_25
    · rw [if_neg g] at hρ
      have hp := hp.2 g
      refine lv_iload_n X.1 X.2.1 d_V_leastBlock_8 rfl (hl.at 0 rfl) ?_
      refine lv_iload_n X.1 X.2.1 d_V_leastBlock_9 rfl (hl.at 1 rfl) ?_
      refine r_callS (rest := []) X K hw hl.1 mf_V_82 (c_V_hasBlock l D cI cZ base ad fz x0 x1 h hp.1) (by decide) ⟨Nat.le_refl _, Nat.le_refl _⟩ rfl rfl (Nat.le_of_ble_eq_true rfl) d_V_leastBlock_10 (fun v h' H locs q hw => ?_)
      obtain ⟨rfl, rfl⟩ := q
      have hp := hp.2
      refine lv_if_eq (tgt := 18) X.1 X.2.1 d_V_leastBlock_13 (by decide) (fun g => ?_) (fun g => ?_)
      · rw [if_pos g] at hρ
        have hp := hp.1 g
        refine lv_iincL X.1 X.2.1 hl (v := (x1 + 1)) d_V_leastBlock_18 rfl (congrArg (fun z => x1 + z) (by decide)) (by decide) (fun ls hl => ?_)
        have hl : Lc ls 2 [some (.int x0), some (.int (x1 + 1))] := hl
        refine lv_goto (tgt := 2) X.1 X.2.1 d_V_leastBlock_21 (by decide) ?_
        exact ih x0 (x1 + 1) h ρ hρ hp hl hw
      · rw [if_neg g] at hρ
        have hp := hp.2 g
        refine lv_iload_n X.1 X.2.1 d_V_leastBlock_16 rfl (hl.at 1 rfl) ?_
        exact r_iret X hr hk hw ⟨congrArg (fun z => some (Value.int z)) hρ, rfl⟩ d_V_leastBlock_17
set_option maxHeartbeats 4000000 in
set_option maxRecDepth 100000 in
theorem w_V_leastBlock (fz : Nat) (x0 : Int32) (h : HH) (ρ : Int32) (hρ : B_V_leastBlock fz x0 h = ρ) (hp : P_V_leastBlock fz x0 h) (X : CallFix p m c b_V_leastBlock 2 s args TB R_V) (K : KK D cI cZ s) (hr : meth.sig.returnType = (some .int)) (hk : meth.locks = false) {ls : Array Slot} {H : Heap} {locs : List Loc} (hl : Lc ls 2 [some (.int x0), none]) (hw : Hw D cI cZ base ad s shape h H locs) : W p l e (rmD 1 21) s m args below meth c H locs 0 0 (MQ below (Qw D cI cZ base ad (pI h ρ)) args s 0 0 (fun q => base ≤ q)) (F0 m 0 ls []) := by
  unfold B_V_leastBlock at hρ
  unfold P_V_leastBlock at hp
  refine lv_iconst (v := (0 : Int32)) X.1 X.2.1 d_V_leastBlock_0 (by decide) ?_
  refine r_istore_n X hl d_V_leastBlock_1 rfl (by decide) (fun ls hl => ?_)
  have hl : Lc ls 2 [some (.int x0), some (.int (0 : Int32))] := hl
  exact w_V_leastBlock_2 X K hr hk fz fz x0 (0 : Int32) h ρ hρ hp hl hw
set_option maxRecDepth 100000 in
theorem c_V_leastBlock (l : Launch) (D : va_G) (cI cZ : ClassId) (base : Nat) (ad : Nat → Nat) (fz : Nat) (x0 : Int32) (h : HH) (hp : P_V_leastBlock fz x0 h) : Ct l D cI cZ base ad y_V_leastBlock b_V_leastBlock 2 (some .int) 1 21 [.int x0] h (pI h (B_V_leastBlock fz x0 h)) := by
  refine Ct.of (by decide) (Nat.le_of_ble_eq_true rfl) (cat_ok rfl) ?_
  intro p e s m args below meth c ls X K hr hk hl hw
  exact w_V_leastBlock fz x0 h _ rfl hp X K hr hk hl hw
set_option maxHeartbeats 4000000 in
set_option maxRecDepth 100000 in
theorem w_V_copy_80 (fz : Nat) (i2 : Nat) (n2 : isN i2) (x3 : Int32) (h : HH) (ρ : Int32 × HH) (hρ : B_V_copy_80 fz i2 x3 h = ρ) (hp : P_V_copy_80 fz i2 x3 h) (X : CallFix p m c b_V_copy 4 s args TB R_V) (K : KK D cI cZ s) (hr : meth.sig.returnType = (some .int)) (hk : meth.locks = false) {ls : Array Slot} {H : Heap} {locs : List Loc} (hl : Lc ls 4 [none, none, some (.ref (ad i2)), some (.int x3)]) (hw : Hw D cI cZ base ad s shape h H locs) : W p l e (rmD 2 45) s m args below meth c H locs 0 0 (MQ below (Qw D cI cZ base ad (pIH ρ)) args s 0 0 (fun q => base ≤ q)) (F0 m 80 ls []) := by
  unfold B_V_copy_80 at hρ
  unfold P_V_copy_80 at hp
  refine lv_aload_n X.1 X.2.1 d_V_copy_80 rfl (hl.at 2 rfl) ?_
  refine r_getr (j := (i2 + 4)) X K hw fg_V_94 (shp_N n2) rfl d_V_copy_81 ?_
  refine lv_iconst (v := (3 : Int32)) X.1 X.2.1 d_V_copy_84 (by decide) ?_
  refine lv_iload_n X.1 X.2.1 d_V_copy_85 rfl (hl.at 3 rfl) ?_
  refine lv_aload_n X.1 X.2.1 d_V_copy_86 rfl (hl.at 2 rfl) ?_
  refine r_getr (j := (i2 + 1)) X K hw fg_V_78 (shp_N n2) rfl d_V_copy_87 ?_
  refine lv_iload_n X.1 X.2.1 d_V_copy_90 rfl (hl.at 3 rfl) ?_
  refine r_ald X K hw (sha_1 n2) hp.1 d_V_copy_91 ?_
  have hp := hp.2
  refine r_callV (rest := []) X K hw hl.1 mf_V_98 (shp_O n2) rfl rfl (c_O_send l D cI cZ base ad fz i2 n2 (3 : Int32) x3 (h (i2 + 1) (ix x3)) h hp.1) (by decide) ⟨Nat.le_refl _, Nat.le_refl _⟩ rfl rfl (Nat.le_of_ble_eq_true rfl) d_V_copy_92 (fun v h' H locs q hw => ?_)
  obtain ⟨rfl, rfl⟩ := q
  have hp := hp.2
  refine lv_iload_n X.1 X.2.1 d_V_copy_95 rfl (hl.at 3 rfl) ?_
  exact r_iret X hr hk hw ⟨congrArg (fun z => some (Value.int z.1)) hρ, (congrArg Prod.snd hρ).symm⟩ d_V_copy_96
set_option maxHeartbeats 4000000 in
set_option maxRecDepth 100000 in
theorem w_V_copy (fz : Nat) (x1 : Int32) (h : HH) (ρ : Int32 × HH) (hρ : B_V_copy fz x1 h = ρ) (hp : P_V_copy fz x1 h) (X : CallFix p m c b_V_copy 4 s args TB R_V) (K : KK D cI cZ s) (hr : meth.sig.returnType = (some .int)) (hk : meth.locks = false) {ls : Array Slot} {H : Heap} {locs : List Loc} (hl : Lc ls 4 [some (.ref (ad 0)), some (.int x1), none, none]) (hw : Hw D cI cZ base ad s shape h H locs) : W p l e (rmD 2 45) s m args below meth c H locs 0 0 (MQ below (Qw D cI cZ base ad (pIH ρ)) args s 0 0 (fun q => base ≤ q)) (F0 m 0 ls []) := by
  unfold B_V_copy at hρ
  unfold P_V_copy at hp
  refine lv_iload_n X.1 X.2.1 d_V_copy_0 rfl (hl.at 1 rfl) ?_
  refine r_callS (rest := []) X K hw hl.1 mf_V_36 (c_V_isNode l D cI cZ base ad fz x1 h hp.1) (by decide) ⟨Nat.le_refl _, Nat.le_refl _⟩ rfl rfl (Nat.le_of_ble_eq_true rfl) d_V_copy_1 (fun v h' H locs q hw => ?_)
  obtain ⟨rfl, rfl⟩ := q
  have hp := hp.2
  refine lv_if_ne (tgt := 9) X.1 X.2.1 d_V_copy_4 (by decide) (fun g => ?_) (fun g => ?_)
  · rw [if_neg g] at hρ
    have hp := hp.2 g
    refine lv_aload_n X.1 X.2.1 d_V_copy_9 rfl (hl.at 0 rfl) ?_
    refine lv_iload_n X.1 X.2.1 d_V_copy_10 rfl (hl.at 1 rfl) ?_
    refine r_callV (rest := []) X K hw hl.1 mf_V_43 rfl rfl rfl (c_V_nodeOf l D cI cZ base ad fz x1 h hp.1) (by decide) ⟨Nat.le_refl _, Nat.le_refl _⟩ rfl rfl (Nat.le_of_ble_eq_true rfl) d_V_copy_11 (fun v h' H locs q hw => ?_)
    obtain ⟨rfl, rfl⟩ := q
    have hp := hp.2
    refine r_astore_n X hl d_V_copy_14 rfl (by decide) (fun ls hl => ?_)
    have hl : Lc ls 4 [some (.ref (ad 0)), some (.int x1), some (.ref (ad (B_V_nodeOf fz x1 h))), none] := hl
    refine lv_aload_n X.1 X.2.1 d_V_copy_15 rfl (hl.at 2 rfl) ?_
    refine r_geti X K hw fg_V_155 (shp_N (isN_V_nodeOf fz x1 h)) rfl d_V_copy_16 ?_
    refine lv_if_eq (tgt := 33) X.1 X.2.1 d_V_copy_19 (by decide) (fun g => ?_) (fun g => ?_)
    · rw [if_pos g] at hρ
      have hp := hp.1 g
      refine lv_iconst (v := (-1 : Int32)) X.1 X.2.1 d_V_copy_33 (by decide) ?_
      exact r_iret X hr hk hw ⟨congrArg (fun z => some (Value.int z.1)) hρ, (congrArg Prod.snd hρ).symm⟩ d_V_copy_34
    · rw [if_neg g] at hρ
      have hp := hp.2 g
      refine lv_aload_n X.1 X.2.1 d_V_copy_22 rfl (hl.at 2 rfl) ?_
      refine r_geti X K hw fg_V_158 (shp_N (isN_V_nodeOf fz x1 h)) rfl d_V_copy_23 ?_
      refine r_callS (rest := []) X K hw hl.1 mf_V_161 (c_I_bitCount l D cI cZ base ad fz (h (B_V_nodeOf fz x1 h) 14) h hp.1) (by decide) ⟨Nat.le_refl _, Nat.le_refl _⟩ rfl rfl (Nat.le_of_ble_eq_true rfl) d_V_copy_26 (fun v h' H locs q hw => ?_)
      obtain ⟨rfl, rfl⟩ := q
      have hp := hp.2
      refine lv_iconst (v := (4 : Int32)) X.1 X.2.1 d_V_copy_29 (by decide) ?_
      refine lv_icmp_lt (tgt := 35) X.1 X.2.1 d_V_copy_30 (by decide) (fun g => ?_) (fun g => ?_)
      · rw [if_pos g] at hρ
        have hp := hp.1 g
        refine lv_aload_n X.1 X.2.1 d_V_copy_35 rfl (hl.at 2 rfl) ?_
        refine r_geti X K hw fg_V_166 (shp_N (isN_V_nodeOf fz x1 h)) rfl d_V_copy_36 ?_
        refine lv_aload_n X.1 X.2.1 d_V_copy_39 rfl (hl.at 2 rfl) ?_
        refine r_geti X K hw fg_V_158 (shp_N (isN_V_nodeOf fz x1 h)) rfl d_V_copy_40 ?_
        refine lv_iconst (v := (-1 : Int32)) X.1 X.2.1 d_V_copy_43 (by decide) ?_
        refine lv_ixor X.1 X.2.1 d_V_copy_44 ?_
        refine lv_iand X.1 X.2.1 d_V_copy_45 ?_
        refine lv_aload_n X.1 X.2.1 d_V_copy_46 rfl (hl.at 0 rfl) ?_
        refine r_getr (j := 21) X K hw fg_V_24 rfl rfl d_V_copy_47 ?_
        refine lv_iload_n X.1 X.2.1 d_V_copy_50 rfl (hl.at 1 rfl) ?_
        refine r_callV (rest := [.int ((h (B_V_nodeOf fz x1 h) 5) &&& ((h (B_V_nodeOf fz x1 h) 14) ^^^ (-1 : Int32)))]) X K hw hl.1 mf_V_61 rfl rfl rfl (c_T_pendingBlocks l D cI cZ base ad fz x1 h hp.1) (by decide) ⟨Nat.le_refl _, Nat.le_refl _⟩ rfl rfl (Nat.le_of_ble_eq_true rfl) d_V_copy_51 (fun v h' H locs q hw => ?_)
        obtain ⟨rfl, rfl⟩ := q
        have hp := hp.2
        refine lv_iconst (v := (-1 : Int32)) X.1 X.2.1 d_V_copy_54 (by decide) ?_
        refine lv_ixor X.1 X.2.1 d_V_copy_55 ?_
        refine lv_iand X.1 X.2.1 d_V_copy_56 ?_
        refine r_callS (rest := []) X K hw hl.1 mf_V_169 (c_V_leastBlock l D cI cZ base ad fz (((h (B_V_nodeOf fz x1 h) 5) &&& ((h (B_V_nodeOf fz x1 h) 14) ^^^ (-1 : Int32))) &&& ((B_T_pendingBlocks fz x1 h) ^^^ (-1 : Int32))) h hp.1) (by decide) ⟨Nat.le_refl _, Nat.le_refl _⟩ rfl rfl (Nat.le_of_ble_eq_true rfl) d_V_copy_57 (fun v h' H locs q hw => ?_)
        obtain ⟨rfl, rfl⟩ := q
        have hp := hp.2
        refine r_istore_n X hl d_V_copy_60 rfl (by decide) (fun ls hl => ?_)
        have hl : Lc ls 4 [some (.ref (ad 0)), some (.int x1), some (.ref (ad (B_V_nodeOf fz x1 h))), some (.int (B_V_leastBlock fz (((h (B_V_nodeOf fz x1 h) 5) &&& ((h (B_V_nodeOf fz x1 h) 14) ^^^ (-1 : Int32))) &&& ((B_T_pendingBlocks fz x1 h) ^^^ (-1 : Int32))) h))] := hl
        refine lv_iload_n X.1 X.2.1 d_V_copy_61 rfl (hl.at 3 rfl) ?_
        refine lv_iconst (v := (-1 : Int32)) X.1 X.2.1 d_V_copy_62 (by decide) ?_
        refine lv_icmp_ne (tgt := 68) X.1 X.2.1 d_V_copy_63 (by decide) (fun g => ?_) (fun g => ?_)
        · rw [if_neg g] at hρ
          have hp := hp.2 g
          refine lv_aload_n X.1 X.2.1 d_V_copy_68 rfl (hl.at 2 rfl) ?_
          refine lv_dup X.1 X.2.1 d_V_copy_69 rfl ?_
          refine r_geti X K hw fg_V_158 (shp_N (isN_V_nodeOf fz x1 h)) rfl d_V_copy_70 ?_
          refine lv_iconst (v := (1 : Int32)) X.1 X.2.1 d_V_copy_73 (by decide) ?_
          refine lv_iload_n X.1 X.2.1 d_V_copy_74 rfl (hl.at 3 rfl) ?_
          refine lv_ishl X.1 X.2.1 d_V_copy_75 ?_
          refine lv_ior X.1 X.2.1 d_V_copy_76 ?_
          refine r_put X K hw fp_V_158 (shp_N (isN_V_nodeOf fz x1 h)) rfl rfl rfl d_V_copy_77 (fun H locs hw => ?_)
          have hl : Lc ls 4 [none, none, some (.ref (ad (B_V_nodeOf fz x1 h))), some (.int (B_V_leastBlock fz (((h (B_V_nodeOf fz x1 h) 5) &&& ((h (B_V_nodeOf fz x1 h) 14) ^^^ (-1 : Int32))) &&& ((B_T_pendingBlocks fz x1 h) ^^^ (-1 : Int32))) h))] := hl.mask [false, false, true, true]
          exact w_V_copy_80 fz (B_V_nodeOf fz x1 h) (isN_V_nodeOf fz x1 h) (B_V_leastBlock fz (((h (B_V_nodeOf fz x1 h) 5) &&& ((h (B_V_nodeOf fz x1 h) 14) ^^^ (-1 : Int32))) &&& ((B_T_pendingBlocks fz x1 h) ^^^ (-1 : Int32))) h) (u2 h (B_V_nodeOf fz x1 h) 14 ((h (B_V_nodeOf fz x1 h) 14) ||| ((1 : Int32) <<< ((B_V_leastBlock fz (((h (B_V_nodeOf fz x1 h) 5) &&& ((h (B_V_nodeOf fz x1 h) 14) ^^^ (-1 : Int32))) &&& ((B_T_pendingBlocks fz x1 h) ^^^ (-1 : Int32))) h) &&& 31)))) ρ hρ hp X K hr hk hl hw
        · rw [if_pos g] at hρ
          have hp := hp.1 g
          refine lv_iconst (v := (-1 : Int32)) X.1 X.2.1 d_V_copy_66 (by decide) ?_
          exact r_iret X hr hk hw ⟨congrArg (fun z => some (Value.int z.1)) hρ, (congrArg Prod.snd hρ).symm⟩ d_V_copy_67
      · rw [if_neg g] at hρ
        have hp := hp.2 g
        refine lv_iconst (v := (-1 : Int32)) X.1 X.2.1 d_V_copy_33 (by decide) ?_
        exact r_iret X hr hk hw ⟨congrArg (fun z => some (Value.int z.1)) hρ, (congrArg Prod.snd hρ).symm⟩ d_V_copy_34
  · rw [if_pos g] at hρ
    have hp := hp.1 g
    refine lv_iconst (v := (-1 : Int32)) X.1 X.2.1 d_V_copy_7 (by decide) ?_
    exact r_iret X hr hk hw ⟨congrArg (fun z => some (Value.int z.1)) hρ, (congrArg Prod.snd hρ).symm⟩ d_V_copy_8
set_option maxRecDepth 100000 in
theorem c_V_copy (l : Launch) (D : va_G) (cI cZ : ClassId) (base : Nat) (ad : Nat → Nat) (fz : Nat) (x1 : Int32) (h : HH) (hp : P_V_copy fz x1 h) : Ct l D cI cZ base ad y_V_copy b_V_copy 4 (some .int) 2 45 [.ref (ad 0), .int x1] h (pIH (B_V_copy fz x1 h)) := by
  refine Ct.of (by decide) (Nat.le_of_ble_eq_true rfl) (cat_ok rfl) ?_
  intro p e s m args below meth c ls X K hr hk hl hw
  exact w_V_copy fz x1 h _ rfl hp X K hr hk hl hw
end WALK
