section WALK
variable {p : Program} {l : Launch} {e : Env} {s : State} {m : MethodId} {args : Array Value} {below : List Frame} {meth : Method} {c : Code} {D : va_G} {cI cZ : ClassId} {base : Nat} {ad : Nat → Nat} {R : Room} {Q : State → Prop} {cells slots : Nat}
set_option maxHeartbeats 4000000 in
set_option maxRecDepth 100000 in
theorem w_V_wentDifferentWays (fz : Nat)  (h : HH) (ρ : Int32) (hρ : B_V_wentDifferentWays fz  h = ρ) (hp : P_V_wentDifferentWays fz  h) (X : CallFix p m c b_V_wentDifferentWays 1 s args TB R_V) (K : KK D cI cZ s) (hr : meth.sig.returnType = (some .boolean)) (hk : meth.locks = false) {ls : Array Slot} {H : Heap} {locs : List Loc} (hl : Lc ls 1 [some (.ref (ad 0))]) (hw : Hw D cI cZ base ad s shape h H locs) : W p l e (rmD 0 0) s m args below meth c H locs 0 0 (MQ below (Qw D cI cZ base ad (pI h ρ)) args s 0 0 (fun q => base ≤ q)) (F0 m 0 ls []) := by
  unfold B_V_wentDifferentWays at hρ
  unfold P_V_wentDifferentWays at hp
  refine lv_aload_n X.1 X.2.1 d_V_wentDifferentWays_0 rfl (hl.at 0 rfl) ?_
  refine r_getr (j := 1) X K hw fg_V_12 rfl rfl d_V_wentDifferentWays_1 ?_
  refine r_geti X K hw fg_V_194 (shp_N (Or.inl rfl)) rfl d_V_wentDifferentWays_4 ?_
  refine lv_if_ne (tgt := 75) X.1 X.2.1 d_V_wentDifferentWays_7 (by decide) (fun g => ?_) (fun g => ?_)
  · rw [if_neg g] at hρ
    have hp := hp.2 g
    refine lv_iconst (v := (0 : Int32)) X.1 X.2.1 d_V_wentDifferentWays_75 (by decide) ?_
    exact r_zret X hr hk hw (by decide) ⟨congrArg (fun z => some (Value.int z)) hρ, rfl⟩ d_V_wentDifferentWays_76
  · rw [if_pos g] at hρ
    have hp := hp.1 g
    refine lv_aload_n X.1 X.2.1 d_V_wentDifferentWays_10 rfl (hl.at 0 rfl) ?_
    refine r_getr (j := 11) X K hw fg_V_18 rfl rfl d_V_wentDifferentWays_11 ?_
    refine r_geti X K hw fg_V_194 (shp_N (Or.inr rfl)) rfl d_V_wentDifferentWays_14 ?_
    refine lv_if_ne (tgt := 75) X.1 X.2.1 d_V_wentDifferentWays_17 (by decide) (fun g => ?_) (fun g => ?_)
    · rw [if_neg g] at hρ
      have hp := hp.2 g
      refine lv_iconst (v := (0 : Int32)) X.1 X.2.1 d_V_wentDifferentWays_75 (by decide) ?_
      exact r_zret X hr hk hw (by decide) ⟨congrArg (fun z => some (Value.int z)) hρ, rfl⟩ d_V_wentDifferentWays_76
    · rw [if_pos g] at hρ
      have hp := hp.1 g
      refine lv_aload_n X.1 X.2.1 d_V_wentDifferentWays_20 rfl (hl.at 0 rfl) ?_
      refine r_getr (j := 1) X K hw fg_V_12 rfl rfl d_V_wentDifferentWays_21 ?_
      refine r_geti X K hw fg_V_197 (shp_N (Or.inl rfl)) rfl d_V_wentDifferentWays_24 ?_
      refine lv_aload_n X.1 X.2.1 d_V_wentDifferentWays_27 rfl (hl.at 0 rfl) ?_
      refine r_getr (j := 11) X K hw fg_V_18 rfl rfl d_V_wentDifferentWays_28 ?_
      refine r_geti X K hw fg_V_197 (shp_N (Or.inr rfl)) rfl d_V_wentDifferentWays_31 ?_
      refine lv_icmp_eq (tgt := 75) X.1 X.2.1 d_V_wentDifferentWays_34 (by decide) (fun g => ?_) (fun g => ?_)
      · rw [if_pos g] at hρ
        have hp := hp.1 g
        refine lv_iconst (v := (0 : Int32)) X.1 X.2.1 d_V_wentDifferentWays_75 (by decide) ?_
        exact r_zret X hr hk hw (by decide) ⟨congrArg (fun z => some (Value.int z)) hρ, rfl⟩ d_V_wentDifferentWays_76
      · rw [if_neg g] at hρ
        have hp := hp.2 g
        refine lv_aload_n X.1 X.2.1 d_V_wentDifferentWays_37 rfl (hl.at 0 rfl) ?_
        refine r_getr (j := 1) X K hw fg_V_12 rfl rfl d_V_wentDifferentWays_38 ?_
        refine r_geti X K hw fg_V_200 (shp_N (Or.inl rfl)) rfl d_V_wentDifferentWays_41 ?_
        refine lv_aload_n X.1 X.2.1 d_V_wentDifferentWays_44 rfl (hl.at 0 rfl) ?_
        refine r_getr (j := 11) X K hw fg_V_18 rfl rfl d_V_wentDifferentWays_45 ?_
        refine r_geti X K hw fg_V_197 (shp_N (Or.inr rfl)) rfl d_V_wentDifferentWays_48 ?_
        refine lv_icmp_eq (tgt := 75) X.1 X.2.1 d_V_wentDifferentWays_51 (by decide) (fun g => ?_) (fun g => ?_)
        · rw [if_pos g] at hρ
          have hp := hp.1 g
          refine lv_iconst (v := (0 : Int32)) X.1 X.2.1 d_V_wentDifferentWays_75 (by decide) ?_
          exact r_zret X hr hk hw (by decide) ⟨congrArg (fun z => some (Value.int z)) hρ, rfl⟩ d_V_wentDifferentWays_76
        · rw [if_neg g] at hρ
          have hp := hp.2 g
          refine lv_aload_n X.1 X.2.1 d_V_wentDifferentWays_54 rfl (hl.at 0 rfl) ?_
          refine r_getr (j := 11) X K hw fg_V_18 rfl rfl d_V_wentDifferentWays_55 ?_
          refine r_geti X K hw fg_V_200 (shp_N (Or.inr rfl)) rfl d_V_wentDifferentWays_58 ?_
          refine lv_aload_n X.1 X.2.1 d_V_wentDifferentWays_61 rfl (hl.at 0 rfl) ?_
          refine r_getr (j := 1) X K hw fg_V_12 rfl rfl d_V_wentDifferentWays_62 ?_
          refine r_geti X K hw fg_V_197 (shp_N (Or.inl rfl)) rfl d_V_wentDifferentWays_65 ?_
          refine lv_icmp_eq (tgt := 75) X.1 X.2.1 d_V_wentDifferentWays_68 (by decide) (fun g => ?_) (fun g => ?_)
          · rw [if_pos g] at hρ
            have hp := hp.1 g
            refine lv_iconst (v := (0 : Int32)) X.1 X.2.1 d_V_wentDifferentWays_75 (by decide) ?_
            exact r_zret X hr hk hw (by decide) ⟨congrArg (fun z => some (Value.int z)) hρ, rfl⟩ d_V_wentDifferentWays_76
          · rw [if_neg g] at hρ
            have hp := hp.2 g
            refine lv_iconst (v := (1 : Int32)) X.1 X.2.1 d_V_wentDifferentWays_71 (by decide) ?_
            refine lv_goto (tgt := 76) X.1 X.2.1 d_V_wentDifferentWays_72 (by decide) ?_
            exact r_zret X hr hk hw (by decide) ⟨congrArg (fun z => some (Value.int z)) hρ, rfl⟩ d_V_wentDifferentWays_76
set_option maxRecDepth 100000 in
theorem c_V_wentDifferentWays (l : Launch) (D : va_G) (cI cZ : ClassId) (base : Nat) (ad : Nat → Nat) (fz : Nat)  (h : HH) (hp : P_V_wentDifferentWays fz  h) : Ct l D cI cZ base ad y_V_wentDifferentWays b_V_wentDifferentWays 1 (some .boolean) 0 0 [.ref (ad 0)] h (pI h (B_V_wentDifferentWays fz  h)) := by
  refine Ct.of (by decide) (Nat.le_of_ble_eq_true rfl) (cat_ok rfl) ?_
  intro p e s m args below meth c ls X K hr hk hl hw
  exact w_V_wentDifferentWays fz  h _ rfl hp X K hr hk hl hw
set_option maxHeartbeats 4000000 in
set_option maxRecDepth 100000 in
theorem w_V_chooseSource_20 (fz : Nat)  (h : HH) (ρ : Int32) (hρ : B_V_chooseSource_20 fz  h = ρ) (hp : P_V_chooseSource_20 fz  h) (X : CallFix p m c b_V_chooseSource 1 s args TB R_V) (K : KK D cI cZ s) (hr : meth.sig.returnType = (some .int)) (hk : meth.locks = false) {ls : Array Slot} {H : Heap} {locs : List Loc} (hl : Lc ls 1 [some (.ref (ad 0))]) (hw : Hw D cI cZ base ad s shape h H locs) : W p l e (rmD 0 0) s m args below meth c H locs 0 0 (MQ below (Qw D cI cZ base ad (pI h ρ)) args s 0 0 (fun q => base ≤ q)) (F0 m 20 ls []) := by
  unfold B_V_chooseSource_20 at hρ
  unfold P_V_chooseSource_20 at hp
  refine lv_aload_n X.1 X.2.1 d_V_chooseSource_20 rfl (hl.at 0 rfl) ?_
  refine r_getr (j := 11) X K hw fg_V_18 rfl rfl d_V_chooseSource_21 ?_
  refine r_geti X K hw fg_V_194 (shp_N (Or.inr rfl)) rfl d_V_chooseSource_24 ?_
  refine lv_if_eq (tgt := 34) X.1 X.2.1 d_V_chooseSource_27 (by decide) (fun g => ?_) (fun g => ?_)
  · rw [if_pos g] at hρ
    have hp := hp.1 g
    refine lv_iconst (v := (1 : Int32)) X.1 X.2.1 d_V_chooseSource_34 (by decide) ?_
    exact r_iret X hr hk hw ⟨congrArg (fun z => some (Value.int z)) hρ, rfl⟩ d_V_chooseSource_35
  · rw [if_neg g] at hρ
    have hp := hp.2 g
    refine lv_iconst (v := (0 : Int32)) X.1 X.2.1 d_V_chooseSource_30 (by decide) ?_
    refine lv_goto (tgt := 35) X.1 X.2.1 d_V_chooseSource_31 (by decide) ?_
    exact r_iret X hr hk hw ⟨congrArg (fun z => some (Value.int z)) hρ, rfl⟩ d_V_chooseSource_35
set_option maxHeartbeats 4000000 in
set_option maxRecDepth 100000 in
theorem w_V_chooseSource_98 (fz : Nat)  (h : HH) (ρ : Int32) (hρ : B_V_chooseSource_98 fz  h = ρ) (hp : P_V_chooseSource_98 fz  h) (X : CallFix p m c b_V_chooseSource 1 s args TB R_V) (K : KK D cI cZ s) (hr : meth.sig.returnType = (some .int)) (hk : meth.locks = false) {ls : Array Slot} {H : Heap} {locs : List Loc} (hl : Lc ls 1 [some (.ref (ad 0))]) (hw : Hw D cI cZ base ad s shape h H locs) : W p l e (rmD 0 0) s m args below meth c H locs 0 0 (MQ below (Qw D cI cZ base ad (pI h ρ)) args s 0 0 (fun q => base ≤ q)) (F0 m 98 ls []) := by
  unfold B_V_chooseSource_98 at hρ
  unfold P_V_chooseSource_98 at hp
  refine lv_aload_n X.1 X.2.1 d_V_chooseSource_98 rfl (hl.at 0 rfl) ?_
  refine r_getr (j := 1) X K hw fg_V_12 rfl rfl d_V_chooseSource_99 ?_
  refine r_geti X K hw fg_V_50 (shp_N (Or.inl rfl)) rfl d_V_chooseSource_102 ?_
  refine lv_aload_n X.1 X.2.1 d_V_chooseSource_105 rfl (hl.at 0 rfl) ?_
  refine r_getr (j := 11) X K hw fg_V_18 rfl rfl d_V_chooseSource_106 ?_
  refine r_geti X K hw fg_V_50 (shp_N (Or.inr rfl)) rfl d_V_chooseSource_109 ?_
  refine lv_icmp_eq (tgt := 131) X.1 X.2.1 d_V_chooseSource_112 (by decide) (fun g => ?_) (fun g => ?_)
  · rw [if_pos g] at hρ
    have hp := hp.1 g
    refine lv_aload_n X.1 X.2.1 d_V_chooseSource_131 rfl (hl.at 0 rfl) ?_
    refine r_getr (j := 1) X K hw fg_V_12 rfl rfl d_V_chooseSource_132 ?_
    refine r_geti X K hw fg_V_188 (shp_N (Or.inl rfl)) rfl d_V_chooseSource_135 ?_
    refine lv_if_eq (tgt := 145) X.1 X.2.1 d_V_chooseSource_138 (by decide) (fun g => ?_) (fun g => ?_)
    · rw [if_pos g] at hρ
      have hp := hp.1 g
      refine lv_iconst (v := (1 : Int32)) X.1 X.2.1 d_V_chooseSource_145 (by decide) ?_
      exact r_iret X hr hk hw ⟨congrArg (fun z => some (Value.int z)) hρ, rfl⟩ d_V_chooseSource_146
    · rw [if_neg g] at hρ
      have hp := hp.2 g
      refine lv_iconst (v := (0 : Int32)) X.1 X.2.1 d_V_chooseSource_141 (by decide) ?_
      refine lv_goto (tgt := 146) X.1 X.2.1 d_V_chooseSource_142 (by decide) ?_
      exact r_iret X hr hk hw ⟨congrArg (fun z => some (Value.int z)) hρ, rfl⟩ d_V_chooseSource_146
  · rw [if_neg g] at hρ
    have hp := hp.2 g
    refine lv_aload_n X.1 X.2.1 d_V_chooseSource_115 rfl (hl.at 0 rfl) ?_
    refine r_getr (j := 1) X K hw fg_V_12 rfl rfl d_V_chooseSource_116 ?_
    refine r_geti X K hw fg_V_50 (shp_N (Or.inl rfl)) rfl d_V_chooseSource_119 ?_
    refine lv_if_eq (tgt := 129) X.1 X.2.1 d_V_chooseSource_122 (by decide) (fun g => ?_) (fun g => ?_)
    · rw [if_pos g] at hρ
      have hp := hp.1 g
      refine lv_iconst (v := (1 : Int32)) X.1 X.2.1 d_V_chooseSource_129 (by decide) ?_
      exact r_iret X hr hk hw ⟨congrArg (fun z => some (Value.int z)) hρ, rfl⟩ d_V_chooseSource_130
    · rw [if_neg g] at hρ
      have hp := hp.2 g
      refine lv_iconst (v := (0 : Int32)) X.1 X.2.1 d_V_chooseSource_125 (by decide) ?_
      refine lv_goto (tgt := 130) X.1 X.2.1 d_V_chooseSource_126 (by decide) ?_
      exact r_iret X hr hk hw ⟨congrArg (fun z => some (Value.int z)) hρ, rfl⟩ d_V_chooseSource_130
set_option maxHeartbeats 4000000 in
set_option maxRecDepth 100000 in
theorem w_V_chooseSource (fz : Nat)  (h : HH) (ρ : Int32) (hρ : B_V_chooseSource fz  h = ρ) (hp : P_V_chooseSource fz  h) (X : CallFix p m c b_V_chooseSource 1 s args TB R_V) (K : KK D cI cZ s) (hr : meth.sig.returnType = (some .int)) (hk : meth.locks = false) {ls : Array Slot} {H : Heap} {locs : List Loc} (hl : Lc ls 1 [some (.ref (ad 0))]) (hw : Hw D cI cZ base ad s shape h H locs) : W p l e (rmD 0 0) s m args below meth c H locs 0 0 (MQ below (Qw D cI cZ base ad (pI h ρ)) args s 0 0 (fun q => base ≤ q)) (F0 m 0 ls []) := by
  unfold B_V_chooseSource at hρ
  unfold P_V_chooseSource at hp
  refine lv_aload_n X.1 X.2.1 d_V_chooseSource_0 rfl (hl.at 0 rfl) ?_
  refine r_getr (j := 1) X K hw fg_V_12 rfl rfl d_V_chooseSource_1 ?_
  refine r_geti X K hw fg_V_194 (shp_N (Or.inl rfl)) rfl d_V_chooseSource_4 ?_
  refine lv_if_ne (tgt := 20) X.1 X.2.1 d_V_chooseSource_7 (by decide) (fun g => ?_) (fun g => ?_)
  · rw [if_neg g] at hρ
    have hp := hp.2 g
    exact w_V_chooseSource_20 fz  h ρ hρ hp X K hr hk hl hw
  · rw [if_pos g] at hρ
    have hp := hp.1 g
    refine lv_aload_n X.1 X.2.1 d_V_chooseSource_10 rfl (hl.at 0 rfl) ?_
    refine r_getr (j := 11) X K hw fg_V_18 rfl rfl d_V_chooseSource_11 ?_
    refine r_geti X K hw fg_V_194 (shp_N (Or.inr rfl)) rfl d_V_chooseSource_14 ?_
    refine lv_if_eq (tgt := 36) X.1 X.2.1 d_V_chooseSource_17 (by decide) (fun g => ?_) (fun g => ?_)
    · rw [if_pos g] at hρ
      have hp := hp.1 g
      refine lv_aload_n X.1 X.2.1 d_V_chooseSource_36 rfl (hl.at 0 rfl) ?_
      refine r_getr (j := 1) X K hw fg_V_12 rfl rfl d_V_chooseSource_37 ?_
      refine r_geti X K hw fg_V_197 (shp_N (Or.inl rfl)) rfl d_V_chooseSource_40 ?_
      refine lv_aload_n X.1 X.2.1 d_V_chooseSource_43 rfl (hl.at 0 rfl) ?_
      refine r_getr (j := 11) X K hw fg_V_18 rfl rfl d_V_chooseSource_44 ?_
      refine r_geti X K hw fg_V_197 (shp_N (Or.inr rfl)) rfl d_V_chooseSource_47 ?_
      refine lv_icmp_eq (tgt := 76) X.1 X.2.1 d_V_chooseSource_50 (by decide) (fun g => ?_) (fun g => ?_)
      · rw [if_pos g] at hρ
        have hp := hp.1 g
        refine lv_aload_n X.1 X.2.1 d_V_chooseSource_76 rfl (hl.at 0 rfl) ?_
        refine r_getr (j := 1) X K hw fg_V_12 rfl rfl d_V_chooseSource_77 ?_
        refine r_geti X K hw fg_V_188 (shp_N (Or.inl rfl)) rfl d_V_chooseSource_80 ?_
        refine lv_if_ne (tgt := 98) X.1 X.2.1 d_V_chooseSource_83 (by decide) (fun g => ?_) (fun g => ?_)
        · rw [if_neg g] at hρ
          have hp := hp.2 g
          exact w_V_chooseSource_98 fz  h ρ hρ hp X K hr hk hl hw
        · rw [if_pos g] at hρ
          have hp := hp.1 g
          refine lv_aload_n X.1 X.2.1 d_V_chooseSource_86 rfl (hl.at 0 rfl) ?_
          refine r_getr (j := 11) X K hw fg_V_18 rfl rfl d_V_chooseSource_87 ?_
          refine r_geti X K hw fg_V_188 (shp_N (Or.inr rfl)) rfl d_V_chooseSource_90 ?_
          refine lv_if_ne (tgt := 98) X.1 X.2.1 d_V_chooseSource_93 (by decide) (fun g => ?_) (fun g => ?_)
          · rw [if_neg g] at hρ
            have hp := hp.2 g
            exact w_V_chooseSource_98 fz  h ρ hρ hp X K hr hk hl hw
          · rw [if_pos g] at hρ
            have hp := hp.1 g
            refine lv_iconst (v := (-1 : Int32)) X.1 X.2.1 d_V_chooseSource_96 (by decide) ?_
            exact r_iret X hr hk hw ⟨congrArg (fun z => some (Value.int z)) hρ, rfl⟩ d_V_chooseSource_97
      · rw [if_neg g] at hρ
        have hp := hp.2 g
        refine lv_aload_n X.1 X.2.1 d_V_chooseSource_53 rfl (hl.at 0 rfl) ?_
        refine r_getr (j := 1) X K hw fg_V_12 rfl rfl d_V_chooseSource_54 ?_
        refine r_geti X K hw fg_V_200 (shp_N (Or.inl rfl)) rfl d_V_chooseSource_57 ?_
        refine lv_aload_n X.1 X.2.1 d_V_chooseSource_60 rfl (hl.at 0 rfl) ?_
        refine r_getr (j := 11) X K hw fg_V_18 rfl rfl d_V_chooseSource_61 ?_
        refine r_geti X K hw fg_V_197 (shp_N (Or.inr rfl)) rfl d_V_chooseSource_64 ?_
        refine lv_icmp_ne (tgt := 74) X.1 X.2.1 d_V_chooseSource_67 (by decide) (fun g => ?_) (fun g => ?_)
        · rw [if_neg g] at hρ
          have hp := hp.2 g
          refine lv_iconst (v := (1 : Int32)) X.1 X.2.1 d_V_chooseSource_74 (by decide) ?_
          exact r_iret X hr hk hw ⟨congrArg (fun z => some (Value.int z)) hρ, rfl⟩ d_V_chooseSource_75
        · rw [if_pos g] at hρ
          have hp := hp.1 g
          refine lv_iconst (v := (0 : Int32)) X.1 X.2.1 d_V_chooseSource_70 (by decide) ?_
          refine lv_goto (tgt := 75) X.1 X.2.1 d_V_chooseSource_71 (by decide) ?_
          exact r_iret X hr hk hw ⟨congrArg (fun z => some (Value.int z)) hρ, rfl⟩ d_V_chooseSource_75
    · rw [if_neg g] at hρ
      have hp := hp.2 g
      exact w_V_chooseSource_20 fz  h ρ hρ hp X K hr hk hl hw
set_option maxRecDepth 100000 in
theorem c_V_chooseSource (l : Launch) (D : va_G) (cI cZ : ClassId) (base : Nat) (ad : Nat → Nat) (fz : Nat)  (h : HH) (hp : P_V_chooseSource fz  h) : Ct l D cI cZ base ad y_V_chooseSource b_V_chooseSource 1 (some .int) 0 0 [.ref (ad 0)] h (pI h (B_V_chooseSource fz  h)) := by
  refine Ct.of (by decide) (Nat.le_of_ble_eq_true rfl) (cat_ok rfl) ?_
  intro p e s m args below meth c ls X K hr hk hl hw
  exact w_V_chooseSource fz  h _ rfl hp X K hr hk hl hw
set_option maxHeartbeats 4000000 in
set_option maxRecDepth 100000 in
theorem w_V_beginUpdate_71 (fz : Nat) (i1 : Nat) (n1 : isN i1) (h : HH) (ρ : HH) (hρ : B_V_beginUpdate_71 fz i1 h = ρ) (hp : P_V_beginUpdate_71 fz i1 h) (X : CallFix p m c b_V_beginUpdate 4 s args TB R_V) (K : KK D cI cZ s) (hr : meth.sig.returnType = none) (hk : meth.locks = false) {ls : Array Slot} {H : Heap} {locs : List Loc} (hl : Lc ls 4 [some (.ref (ad 0)), some (.ref (ad i1)), none, none]) (hw : Hw D cI cZ base ad s shape h H locs) : W p l e (rmD 2 45) s m args below meth c H locs 0 0 (MQ below (Qw D cI cZ base ad (pH ρ)) args s 0 0 (fun q => base ≤ q)) (F0 m 71 ls []) := by
  unfold B_V_beginUpdate_71 at hρ
  unfold P_V_beginUpdate_71 at hp
  refine lv_aload_n X.1 X.2.1 d_V_beginUpdate_71 rfl (hl.at 1 rfl) ?_
  refine r_geti X K hw fg_V_166 (shp_N n1) rfl d_V_beginUpdate_72 ?_
  refine lv_if_ne (tgt := 83) X.1 X.2.1 d_V_beginUpdate_75 (by decide) (fun g => ?_) (fun g => ?_)
  · rw [if_neg g] at hρ
    have hp := hp.2 g
    exact r_vret X hr hk hw ⟨rfl, hρ.symm⟩ d_V_beginUpdate_83
  · rw [if_pos g] at hρ
    have hp := hp.1 g
    refine lv_aload_n X.1 X.2.1 d_V_beginUpdate_78 rfl (hl.at 0 rfl) ?_
    refine lv_aload_n X.1 X.2.1 d_V_beginUpdate_79 rfl (hl.at 1 rfl) ?_
    refine r_callV (rest := []) X K hw hl.1 mf_V_228 rfl rfl rfl (c_V_end l D cI cZ base ad fz i1 n1 h hp.1) (by decide) ⟨Nat.le_refl _, Nat.le_refl _⟩ rfl rfl (Nat.le_of_ble_eq_true rfl) d_V_beginUpdate_80 (fun v h' H locs q hw => ?_)
    obtain ⟨rfl, rfl⟩ := q
    have hp := hp.2
    exact r_vret X hr hk hw ⟨rfl, hρ.symm⟩ d_V_beginUpdate_83
set_option maxHeartbeats 4000000 in
set_option maxRecDepth 100000 in
theorem w_V_beginUpdate_53 (fz : Nat) (i1 : Nat) (n1 : isN i1) (i2 : Nat) (n2 : isN i2) (j0 : Nat) (m0 : isN j0) (y1 : Int32) (h : HH) (ρ : HH) (hρ : B_V_beginUpdate_53 fz i1 i2 j0 y1 h = ρ) (hp : P_V_beginUpdate_53 fz i1 i2 j0 y1 h) (X : CallFix p m c b_V_beginUpdate 4 s args TB R_V) (K : KK D cI cZ s) (hr : meth.sig.returnType = none) (hk : meth.locks = false) {ls : Array Slot} {H : Heap} {locs : List Loc} (hl : Lc ls 4 [some (.ref (ad 0)), some (.ref (ad i1)), some (.ref (ad i2)), none]) (hw : Hw D cI cZ base ad s shape h H locs) : W p l e (rmD 2 45) s m args below meth c H locs 0 0 (MQ below (Qw D cI cZ base ad (pH ρ)) args s 0 0 (fun q => base ≤ q)) (F0 m 53 ls [.int y1, .ref (ad j0)]) := by
  unfold B_V_beginUpdate_53 at hρ
  unfold P_V_beginUpdate_53 at hp
  refine r_put X K hw fp_V_166 (shp_N m0) rfl rfl rfl d_V_beginUpdate_53 (fun H locs hw => ?_)
  refine lv_aload_n X.1 X.2.1 d_V_beginUpdate_56 rfl (hl.at 1 rfl) ?_
  refine lv_iconst (v := (1 : Int32)) X.1 X.2.1 d_V_beginUpdate_57 (by decide) ?_
  refine r_put X K hw fp_V_155 (shp_N n1) rfl (by decide) (by decide) d_V_beginUpdate_58 (fun H locs hw => ?_)
  refine lv_aload_n X.1 X.2.1 d_V_beginUpdate_61 rfl (hl.at 2 rfl) ?_
  refine lv_iconst (v := (1 : Int32)) X.1 X.2.1 d_V_beginUpdate_62 (by decide) ?_
  refine r_put X K hw fp_V_209 (shp_N n2) rfl (by decide) (by decide) d_V_beginUpdate_63 (fun H locs hw => ?_)
  refine lv_aload_n X.1 X.2.1 d_V_beginUpdate_66 rfl (hl.at 2 rfl) ?_
  refine lv_iconst (v := (1 : Int32)) X.1 X.2.1 d_V_beginUpdate_67 (by decide) ?_
  refine r_put X K hw fp_V_194 (shp_N n2) rfl (by decide) (by decide) d_V_beginUpdate_68 (fun H locs hw => ?_)
  have hl : Lc ls 4 [some (.ref (ad 0)), some (.ref (ad i1)), none, none] := hl.mask [true, true, false, false]
  exact w_V_beginUpdate_71 fz i1 n1 (u2 (u2 (u2 (u2 h j0 5 y1) i1 12 (1 : Int32)) i2 13 (1 : Int32)) i2 8 (1 : Int32)) ρ hρ hp X K hr hk hl hw
set_option maxHeartbeats 4000000 in
set_option maxRecDepth 100000 in
theorem w_V_beginUpdate_34 (fz : Nat) (i1 : Nat) (n1 : isN i1) (i2 : Nat) (n2 : isN i2) (y0 : Int32) (h : HH) (ρ : HH) (hρ : B_V_beginUpdate_34 fz i1 i2 y0 h = ρ) (hp : P_V_beginUpdate_34 fz i1 i2 y0 h) (X : CallFix p m c b_V_beginUpdate 4 s args TB R_V) (K : KK D cI cZ s) (hr : meth.sig.returnType = none) (hk : meth.locks = false) {ls : Array Slot} {H : Heap} {locs : List Loc} (hl : Lc ls 4 [some (.ref (ad 0)), some (.ref (ad i1)), some (.ref (ad i2)), none]) (hw : Hw D cI cZ base ad s shape h H locs) : W p l e (rmD 2 45) s m args below meth c H locs 0 0 (MQ below (Qw D cI cZ base ad (pH ρ)) args s 0 0 (fun q => base ≤ q)) (F0 m 34 ls [.int y0]) := by
  unfold B_V_beginUpdate_34 at hρ
  unfold P_V_beginUpdate_34 at hp
  refine r_istore_n X hl d_V_beginUpdate_34 rfl (by decide) (fun ls hl => ?_)
  have hl : Lc ls 4 [some (.ref (ad 0)), some (.ref (ad i1)), some (.ref (ad i2)), some (.int y0)] := hl
  refine lv_aload_n X.1 X.2.1 d_V_beginUpdate_35 rfl (hl.at 1 rfl) ?_
  refine lv_iload_n X.1 X.2.1 d_V_beginUpdate_36 rfl (hl.at 3 rfl) ?_
  refine lv_if_eq (tgt := 52) X.1 X.2.1 d_V_beginUpdate_37 (by decide) (fun g => ?_) (fun g => ?_)
  · rw [if_pos g] at hρ
    have hp := hp.1 g
    refine lv_iconst (v := (-1 : Int32)) X.1 X.2.1 d_V_beginUpdate_52 (by decide) ?_
    have hl : Lc ls 4 [some (.ref (ad 0)), some (.ref (ad i1)), some (.ref (ad i2)), none] := hl.mask [true, true, true, false]
    exact w_V_beginUpdate_53 fz i1 n1 i2 n2 i1 n1 (-1 : Int32) h ρ hρ hp X K hr hk hl hw
  · rw [if_neg g] at hρ
    have hp := hp.2 g
    refine lv_aload_n X.1 X.2.1 d_V_beginUpdate_40 rfl (hl.at 1 rfl) ?_
    refine r_geti X K hw fg_V_166 (shp_N n1) rfl d_V_beginUpdate_41 ?_
    refine lv_aload_n X.1 X.2.1 d_V_beginUpdate_44 rfl (hl.at 2 rfl) ?_
    refine r_geti X K hw fg_V_166 (shp_N n2) rfl d_V_beginUpdate_45 ?_
    refine lv_ior X.1 X.2.1 d_V_beginUpdate_48 ?_
    refine lv_goto (tgt := 53) X.1 X.2.1 d_V_beginUpdate_49 (by decide) ?_
    have hl : Lc ls 4 [some (.ref (ad 0)), some (.ref (ad i1)), some (.ref (ad i2)), none] := hl.mask [true, true, true, false]
    exact w_V_beginUpdate_53 fz i1 n1 i2 n2 i1 n1 ((h i1 5) ||| (h i2 5)) h ρ hρ hp X K hr hk hl hw
set_option maxHeartbeats 4000000 in
set_option maxRecDepth 100000 in
theorem w_V_beginUpdate_33 (fz : Nat) (i1 : Nat) (n1 : isN i1) (i2 : Nat) (n2 : isN i2) (h : HH) (ρ : HH) (hρ : B_V_beginUpdate_33 fz i1 i2 h = ρ) (hp : P_V_beginUpdate_33 fz i1 i2 h) (X : CallFix p m c b_V_beginUpdate 4 s args TB R_V) (K : KK D cI cZ s) (hr : meth.sig.returnType = none) (hk : meth.locks = false) {ls : Array Slot} {H : Heap} {locs : List Loc} (hl : Lc ls 4 [some (.ref (ad 0)), some (.ref (ad i1)), some (.ref (ad i2)), none]) (hw : Hw D cI cZ base ad s shape h H locs) : W p l e (rmD 2 45) s m args below meth c H locs 0 0 (MQ below (Qw D cI cZ base ad (pH ρ)) args s 0 0 (fun q => base ≤ q)) (F0 m 33 ls []) := by
  unfold B_V_beginUpdate_33 at hρ
  unfold P_V_beginUpdate_33 at hp
  refine lv_iconst (v := (0 : Int32)) X.1 X.2.1 d_V_beginUpdate_33 (by decide) ?_
  exact w_V_beginUpdate_34 fz i1 n1 i2 n2 (0 : Int32) h ρ hρ hp X K hr hk hl hw
set_option maxHeartbeats 4000000 in
set_option maxRecDepth 100000 in
theorem w_V_beginUpdate_29 (fz : Nat) (i1 : Nat) (n1 : isN i1) (i2 : Nat) (n2 : isN i2) (h : HH) (ρ : HH) (hρ : B_V_beginUpdate_29 fz i1 i2 h = ρ) (hp : P_V_beginUpdate_29 fz i1 i2 h) (X : CallFix p m c b_V_beginUpdate 4 s args TB R_V) (K : KK D cI cZ s) (hr : meth.sig.returnType = none) (hk : meth.locks = false) {ls : Array Slot} {H : Heap} {locs : List Loc} (hl : Lc ls 4 [some (.ref (ad 0)), some (.ref (ad i1)), some (.ref (ad i2)), none]) (hw : Hw D cI cZ base ad s shape h H locs) : W p l e (rmD 2 45) s m args below meth c H locs 0 0 (MQ below (Qw D cI cZ base ad (pH ρ)) args s 0 0 (fun q => base ≤ q)) (F0 m 29 ls []) := by
  unfold B_V_beginUpdate_29 at hρ
  unfold P_V_beginUpdate_29 at hp
  refine lv_iconst (v := (1 : Int32)) X.1 X.2.1 d_V_beginUpdate_29 (by decide) ?_
  refine lv_goto (tgt := 34) X.1 X.2.1 d_V_beginUpdate_30 (by decide) ?_
  exact w_V_beginUpdate_34 fz i1 n1 i2 n2 (1 : Int32) h ρ hρ hp X K hr hk hl hw
set_option maxHeartbeats 4000000 in
set_option maxRecDepth 100000 in
theorem w_V_beginUpdate (fz : Nat) (i1 : Nat) (n1 : isN i1) (i2 : Nat) (n2 : isN i2) (h : HH) (ρ : HH) (hρ : B_V_beginUpdate fz i1 i2 h = ρ) (hp : P_V_beginUpdate fz i1 i2 h) (X : CallFix p m c b_V_beginUpdate 4 s args TB R_V) (K : KK D cI cZ s) (hr : meth.sig.returnType = none) (hk : meth.locks = false) {ls : Array Slot} {H : Heap} {locs : List Loc} (hl : Lc ls 4 [some (.ref (ad 0)), some (.ref (ad i1)), some (.ref (ad i2)), none]) (hw : Hw D cI cZ base ad s shape h H locs) : W p l e (rmD 2 45) s m args below meth c H locs 0 0 (MQ below (Qw D cI cZ base ad (pH ρ)) args s 0 0 (fun q => base ≤ q)) (F0 m 0 ls []) := by
  unfold B_V_beginUpdate at hρ
  unfold P_V_beginUpdate at hp
  refine lv_aload_n X.1 X.2.1 d_V_beginUpdate_0 rfl (hl.at 2 rfl) ?_
  refine r_geti X K hw fg_V_197 (shp_N n2) rfl d_V_beginUpdate_1 ?_
  refine lv_if_eq (tgt := 33) X.1 X.2.1 d_V_beginUpdate_4 (by decide) (fun g => ?_) (fun g => ?_)
  · rw [if_pos g] at hρ
    have hp := hp.1 g
    exact w_V_beginUpdate_33 fz i1 n1 i2 n2 h ρ hρ hp X K hr hk hl hw
  · rw [if_neg g] at hρ
    have hp := hp.2 g
    refine lv_aload_n X.1 X.2.1 d_V_beginUpdate_7 rfl (hl.at 2 rfl) ?_
    refine r_geti X K hw fg_V_197 (shp_N n2) rfl d_V_beginUpdate_8 ?_
    refine lv_aload_n X.1 X.2.1 d_V_beginUpdate_11 rfl (hl.at 1 rfl) ?_
    refine r_geti X K hw fg_V_197 (shp_N n1) rfl d_V_beginUpdate_12 ?_
    refine lv_icmp_eq (tgt := 29) X.1 X.2.1 d_V_beginUpdate_15 (by decide) (fun g => ?_) (fun g => ?_)
    · rw [if_pos g] at hρ
      have hp := hp.1 g
      exact w_V_beginUpdate_29 fz i1 n1 i2 n2 h ρ hρ hp X K hr hk hl hw
    · rw [if_neg g] at hρ
      have hp := hp.2 g
      refine lv_aload_n X.1 X.2.1 d_V_beginUpdate_18 rfl (hl.at 2 rfl) ?_
      refine r_geti X K hw fg_V_197 (shp_N n2) rfl d_V_beginUpdate_19 ?_
      refine lv_aload_n X.1 X.2.1 d_V_beginUpdate_22 rfl (hl.at 1 rfl) ?_
      refine r_geti X K hw fg_V_200 (shp_N n1) rfl d_V_beginUpdate_23 ?_
      refine lv_icmp_ne (tgt := 33) X.1 X.2.1 d_V_beginUpdate_26 (by decide) (fun g => ?_) (fun g => ?_)
      · rw [if_neg g] at hρ
        have hp := hp.2 g
        exact w_V_beginUpdate_33 fz i1 n1 i2 n2 h ρ hρ hp X K hr hk hl hw
      · rw [if_pos g] at hρ
        have hp := hp.1 g
        exact w_V_beginUpdate_29 fz i1 n1 i2 n2 h ρ hρ hp X K hr hk hl hw
set_option maxRecDepth 100000 in
theorem c_V_beginUpdate (l : Launch) (D : va_G) (cI cZ : ClassId) (base : Nat) (ad : Nat → Nat) (fz : Nat) (i1 : Nat) (n1 : isN i1) (i2 : Nat) (n2 : isN i2) (h : HH) (hp : P_V_beginUpdate fz i1 i2 h) : Ct l D cI cZ base ad y_V_beginUpdate b_V_beginUpdate 4 none 2 45 [.ref (ad 0), .ref (ad i1), .ref (ad i2)] h (pH (B_V_beginUpdate fz i1 i2 h)) := by
  refine Ct.of (by decide) (Nat.le_of_ble_eq_true rfl) (cat_ok rfl) ?_
  intro p e s m args below meth c ls X K hr hk hl hw
  exact w_V_beginUpdate fz i1 n1 i2 n2 h _ rfl hp X K hr hk hl hw
set_option maxHeartbeats 4000000 in
set_option maxRecDepth 100000 in
theorem w_V_connect_102 (fz : Nat) (x1 : Int32) (h : HH) (ρ : Int32 × HH) (hρ : B_V_connect_102 fz x1 h = ρ) (hp : P_V_connect_102 fz x1 h) (X : CallFix p m c b_V_connect 2 s args TB R_V) (K : KK D cI cZ s) (hr : meth.sig.returnType = (some .int)) (hk : meth.locks = false) {ls : Array Slot} {H : Heap} {locs : List Loc} (hl : Lc ls 2 [some (.ref (ad 0)), some (.int x1)]) (hw : Hw D cI cZ base ad s shape h H locs) : W p l e (rmD 3 68) s m args below meth c H locs 0 0 (MQ below (Qw D cI cZ base ad (pIH ρ)) args s 0 0 (fun q => base ≤ q)) (F0 m 102 ls []) := by
  unfold B_V_connect_102 at hρ
  unfold P_V_connect_102 at hp
  refine lv_aload_n X.1 X.2.1 d_V_connect_102 rfl (hl.at 0 rfl) ?_
  refine lv_aload_n X.1 X.2.1 d_V_connect_103 rfl (hl.at 0 rfl) ?_
  refine lv_iload_n X.1 X.2.1 d_V_connect_104 rfl (hl.at 1 rfl) ?_
  refine r_callV (rest := [.ref (ad 0)]) X K hw hl.1 mf_V_43 rfl rfl rfl (c_V_nodeOf l D cI cZ base ad fz x1 h hp.1) (by decide) ⟨Nat.le_refl _, Nat.le_refl _⟩ rfl rfl (Nat.le_of_ble_eq_true rfl) d_V_connect_105 (fun v h' H locs q hw => ?_)
  obtain ⟨rfl, rfl⟩ := q
  have hp := hp.2
  refine lv_aload_n X.1 X.2.1 d_V_connect_108 rfl (hl.at 0 rfl) ?_
  refine lv_iload_n X.1 X.2.1 d_V_connect_109 rfl (hl.at 1 rfl) ?_
  refine r_callV (rest := [.ref (ad (B_V_nodeOf fz x1 h)), .ref (ad 0)]) X K hw hl.1 mf_V_126 rfl rfl rfl (c_V_peerOf l D cI cZ base ad fz x1 h hp.1) (by decide) ⟨Nat.le_refl _, Nat.le_refl _⟩ rfl rfl (Nat.le_of_ble_eq_true rfl) d_V_connect_110 (fun v h' H locs q hw => ?_)
  obtain ⟨rfl, rfl⟩ := q
  have hp := hp.2
  refine r_callV (rest := []) X K hw hl.1 mf_V_178 rfl rfl rfl (c_V_beginUpdate l D cI cZ base ad fz (B_V_nodeOf fz x1 h) (isN_V_nodeOf fz x1 h) (B_V_peerOf fz x1 h) (isN_V_peerOf fz x1 h) h hp.1) (by decide) ⟨Nat.le_refl _, Nat.le_refl _⟩ rfl rfl (Nat.le_of_ble_eq_true rfl) d_V_connect_113 (fun v h' H locs q hw => ?_)
  obtain ⟨rfl, rfl⟩ := q
  have hp := hp.2
  refine lv_iconst (v := (1 : Int32)) X.1 X.2.1 d_V_connect_116 (by decide) ?_
  refine lv_iload_n X.1 X.2.1 d_V_connect_117 rfl (hl.at 1 rfl) ?_
  refine lv_iadd X.1 X.2.1 d_V_connect_118 ?_
  exact r_iret X hr hk hw ⟨congrArg (fun z => some (Value.int z.1)) hρ, (congrArg Prod.snd hρ).symm⟩ d_V_connect_119
set_option maxHeartbeats 4000000 in
set_option maxRecDepth 100000 in
theorem w_V_connect_56 (fz : Nat)  (h : HH) (ρ : Int32 × HH) (hρ : B_V_connect_56 fz  h = ρ) (hp : P_V_connect_56 fz  h) (X : CallFix p m c b_V_connect 2 s args TB R_V) (K : KK D cI cZ s) (hr : meth.sig.returnType = (some .int)) (hk : meth.locks = false) {ls : Array Slot} {H : Heap} {locs : List Loc} (hl : Lc ls 2 [some (.ref (ad 0)), none]) (hw : Hw D cI cZ base ad s shape h H locs) : W p l e (rmD 3 68) s m args below meth c H locs 0 0 (MQ below (Qw D cI cZ base ad (pIH ρ)) args s 0 0 (fun q => base ≤ q)) (F0 m 56 ls []) := by
  unfold B_V_connect_56 at hρ
  unfold P_V_connect_56 at hp
  refine lv_aload_n X.1 X.2.1 d_V_connect_56 rfl (hl.at 0 rfl) ?_
  refine r_callV (rest := []) X K hw hl.1 mf_V_172 rfl rfl rfl (c_V_wentDifferentWays l D cI cZ base ad fz  h hp.1) (by decide) ⟨Nat.le_refl _, Nat.le_refl _⟩ rfl rfl (Nat.le_of_ble_eq_true rfl) d_V_connect_57 (fun v h' H locs q hw => ?_)
  obtain ⟨rfl, rfl⟩ := q
  have hp := hp.2
  refine lv_if_eq (tgt := 66) X.1 X.2.1 d_V_connect_60 (by decide) (fun g => ?_) (fun g => ?_)
  · rw [if_pos g] at hρ
    have hp := hp.1 g
    refine lv_aload_n X.1 X.2.1 d_V_connect_66 rfl (hl.at 0 rfl) ?_
    refine r_callV (rest := []) X K hw hl.1 mf_V_175 rfl rfl rfl (c_V_chooseSource l D cI cZ base ad fz  h hp.1) (by decide) ⟨Nat.le_refl _, Nat.le_refl _⟩ rfl rfl (Nat.le_of_ble_eq_true rfl) d_V_connect_67 (fun v h' H locs q hw => ?_)
    obtain ⟨rfl, rfl⟩ := q
    have hp := hp.2
    refine r_istore_n X hl d_V_connect_70 rfl (by decide) (fun ls hl => ?_)
    have hl : Lc ls 2 [some (.ref (ad 0)), some (.int (B_V_chooseSource fz  h))] := hl
    refine lv_iload_n X.1 X.2.1 d_V_connect_71 rfl (hl.at 1 rfl) ?_
    refine lv_iconst (v := (-1 : Int32)) X.1 X.2.1 d_V_connect_72 (by decide) ?_
    refine lv_icmp_ne (tgt := 83) X.1 X.2.1 d_V_connect_73 (by decide) (fun g => ?_) (fun g => ?_)
    · rw [if_neg g] at hρ
      have hp := hp.2 g
      refine lv_aload_n X.1 X.2.1 d_V_connect_83 rfl (hl.at 0 rfl) ?_
      refine lv_iload_n X.1 X.2.1 d_V_connect_84 rfl (hl.at 1 rfl) ?_
      refine r_callV (rest := []) X K hw hl.1 mf_V_126 rfl rfl rfl (c_V_peerOf l D cI cZ base ad fz (B_V_chooseSource fz  h) h hp.1) (by decide) ⟨Nat.le_refl _, Nat.le_refl _⟩ rfl rfl (Nat.le_of_ble_eq_true rfl) d_V_connect_85 (fun v h' H locs q hw => ?_)
      obtain ⟨rfl, rfl⟩ := q
      have hp := hp.2
      refine r_geti X K hw fg_V_50 (shp_N (isN_V_peerOf fz (B_V_chooseSource fz  h) h)) rfl d_V_connect_88 ?_
      refine lv_if_eq (tgt := 97) X.1 X.2.1 d_V_connect_91 (by decide) (fun g => ?_) (fun g => ?_)
      · rw [if_pos g] at hρ
        have hp := hp.1 g
        refine lv_aload_n X.1 X.2.1 d_V_connect_97 rfl (hl.at 0 rfl) ?_
        refine lv_iconst (v := (1 : Int32)) X.1 X.2.1 d_V_connect_98 (by decide) ?_
        refine r_put X K hw fp_V_28 rfl rfl (by decide) (by decide) d_V_connect_99 (fun H locs hw => ?_)
        exact w_V_connect_102 fz (B_V_chooseSource fz  h) (u2 h 0 3 (1 : Int32)) ρ hρ hp X K hr hk hl hw
      · rw [if_neg g] at hρ
        have hp := hp.2 g
        refine lv_bipush (v := (-10 : Int32)) X.1 X.2.1 d_V_connect_94 (by decide) ?_
        exact r_iret X hr hk hw ⟨congrArg (fun z => some (Value.int z.1)) hρ, (congrArg Prod.snd hρ).symm⟩ d_V_connect_96
    · rw [if_pos g] at hρ
      have hp := hp.1 g
      refine lv_aload_n X.1 X.2.1 d_V_connect_76 rfl (hl.at 0 rfl) ?_
      refine lv_iconst (v := (1 : Int32)) X.1 X.2.1 d_V_connect_77 (by decide) ?_
      refine r_put X K hw fp_V_28 rfl rfl (by decide) (by decide) d_V_connect_78 (fun H locs hw => ?_)
      refine lv_iconst (v := (0 : Int32)) X.1 X.2.1 d_V_connect_81 (by decide) ?_
      exact r_iret X hr hk hw ⟨congrArg (fun z => some (Value.int z.1)) hρ, (congrArg Prod.snd hρ).symm⟩ d_V_connect_82
  · rw [if_neg g] at hρ
    have hp := hp.2 g
    refine lv_bipush (v := (-8 : Int32)) X.1 X.2.1 d_V_connect_63 (by decide) ?_
    exact r_iret X hr hk hw ⟨congrArg (fun z => some (Value.int z.1)) hρ, (congrArg Prod.snd hρ).symm⟩ d_V_connect_65
set_option maxHeartbeats 4000000 in
set_option maxRecDepth 100000 in
theorem w_V_connect (fz : Nat)  (h : HH) (ρ : Int32 × HH) (hρ : B_V_connect fz  h = ρ) (hp : P_V_connect fz  h) (X : CallFix p m c b_V_connect 2 s args TB R_V) (K : KK D cI cZ s) (hr : meth.sig.returnType = (some .int)) (hk : meth.locks = false) {ls : Array Slot} {H : Heap} {locs : List Loc} (hl : Lc ls 2 [some (.ref (ad 0)), none]) (hw : Hw D cI cZ base ad s shape h H locs) : W p l e (rmD 3 68) s m args below meth c H locs 0 0 (MQ below (Qw D cI cZ base ad (pIH ρ)) args s 0 0 (fun q => base ≤ q)) (F0 m 0 ls []) := by
  unfold B_V_connect at hρ
  unfold P_V_connect at hp
  refine lv_aload_n X.1 X.2.1 d_V_connect_0 rfl (hl.at 0 rfl) ?_
  refine r_getr (j := 1) X K hw fg_V_12 rfl rfl d_V_connect_1 ?_
  refine r_geti X K hw fg_V_47 (shp_N (Or.inl rfl)) rfl d_V_connect_4 ?_
  refine lv_if_eq (tgt := 20) X.1 X.2.1 d_V_connect_7 (by decide) (fun g => ?_) (fun g => ?_)
  · rw [if_pos g] at hρ
    have hp := hp.1 g
    refine lv_bipush (v := (-2 : Int32)) X.1 X.2.1 d_V_connect_20 (by decide) ?_
    exact r_iret X hr hk hw ⟨congrArg (fun z => some (Value.int z.1)) hρ, (congrArg Prod.snd hρ).symm⟩ d_V_connect_22
  · rw [if_neg g] at hρ
    have hp := hp.2 g
    refine lv_aload_n X.1 X.2.1 d_V_connect_10 rfl (hl.at 0 rfl) ?_
    refine r_getr (j := 11) X K hw fg_V_18 rfl rfl d_V_connect_11 ?_
    refine r_geti X K hw fg_V_47 (shp_N (Or.inr rfl)) rfl d_V_connect_14 ?_
    refine lv_if_ne (tgt := 23) X.1 X.2.1 d_V_connect_17 (by decide) (fun g => ?_) (fun g => ?_)
    · rw [if_neg g] at hρ
      have hp := hp.2 g
      refine lv_aload_n X.1 X.2.1 d_V_connect_23 rfl (hl.at 0 rfl) ?_
      refine r_geti X K hw fg_V_28 rfl rfl d_V_connect_24 ?_
      refine lv_if_eq (tgt := 33) X.1 X.2.1 d_V_connect_27 (by decide) (fun g => ?_) (fun g => ?_)
      · rw [if_pos g] at hρ
        have hp := hp.1 g
        refine lv_aload_n X.1 X.2.1 d_V_connect_33 rfl (hl.at 0 rfl) ?_
        refine r_getr (j := 1) X K hw fg_V_12 rfl rfl d_V_connect_34 ?_
        refine r_geti X K hw fg_V_50 (shp_N (Or.inl rfl)) rfl d_V_connect_37 ?_
        refine lv_if_eq (tgt := 56) X.1 X.2.1 d_V_connect_40 (by decide) (fun g => ?_) (fun g => ?_)
        · rw [if_pos g] at hρ
          have hp := hp.1 g
          exact w_V_connect_56 fz  h ρ hρ hp X K hr hk hl hw
        · rw [if_neg g] at hρ
          have hp := hp.2 g
          refine lv_aload_n X.1 X.2.1 d_V_connect_43 rfl (hl.at 0 rfl) ?_
          refine r_getr (j := 11) X K hw fg_V_18 rfl rfl d_V_connect_44 ?_
          refine r_geti X K hw fg_V_50 (shp_N (Or.inr rfl)) rfl d_V_connect_47 ?_
          refine lv_if_eq (tgt := 56) X.1 X.2.1 d_V_connect_50 (by decide) (fun g => ?_) (fun g => ?_)
          · rw [if_pos g] at hρ
            have hp := hp.1 g
            exact w_V_connect_56 fz  h ρ hρ hp X K hr hk hl hw
          · rw [if_neg g] at hρ
            have hp := hp.2 g
            refine lv_bipush (v := (-7 : Int32)) X.1 X.2.1 d_V_connect_53 (by decide) ?_
            exact r_iret X hr hk hw ⟨congrArg (fun z => some (Value.int z.1)) hρ, (congrArg Prod.snd hρ).symm⟩ d_V_connect_55
      · rw [if_neg g] at hρ
        have hp := hp.2 g
        refine lv_bipush (v := (-9 : Int32)) X.1 X.2.1 d_V_connect_30 (by decide) ?_
        exact r_iret X hr hk hw ⟨congrArg (fun z => some (Value.int z.1)) hρ, (congrArg Prod.snd hρ).symm⟩ d_V_connect_32
    · rw [if_pos g] at hρ
      have hp := hp.1 g
      refine lv_bipush (v := (-2 : Int32)) X.1 X.2.1 d_V_connect_20 (by decide) ?_
      exact r_iret X hr hk hw ⟨congrArg (fun z => some (Value.int z.1)) hρ, (congrArg Prod.snd hρ).symm⟩ d_V_connect_22
set_option maxRecDepth 100000 in
theorem c_V_connect (l : Launch) (D : va_G) (cI cZ : ClassId) (base : Nat) (ad : Nat → Nat) (fz : Nat)  (h : HH) (hp : P_V_connect fz  h) : Ct l D cI cZ base ad y_V_connect b_V_connect 2 (some .int) 3 68 [.ref (ad 0)] h (pIH (B_V_connect fz  h)) := by
  refine Ct.of (by decide) (Nat.le_of_ble_eq_true rfl) (cat_ok rfl) ?_
  intro p e s m args below meth c ls X K hr hk hl hw
  exact w_V_connect fz  h _ rfl hp X K hr hk hl hw
set_option maxHeartbeats 4000000 in
set_option maxRecDepth 100000 in
theorem w_N_leaveLink (fz : Nat) (i0 : Nat) (n0 : isN i0) (h : HH) (ρ : HH) (hρ : B_N_leaveLink fz i0 h = ρ) (hp : P_N_leaveLink fz i0 h) (X : CallFix p m c b_N_leaveLink 1 s args TB R_N) (K : KK D cI cZ s) (hr : meth.sig.returnType = none) (hk : meth.locks = false) {ls : Array Slot} {H : Heap} {locs : List Loc} (hl : Lc ls 1 [some (.ref (ad i0))]) (hw : Hw D cI cZ base ad s shape h H locs) : W p l e (rmD 0 0) s m args below meth c H locs 0 0 (MQ below (Qw D cI cZ base ad (pH ρ)) args s 0 0 (fun q => base ≤ q)) (F0 m 0 ls []) := by
  unfold B_N_leaveLink at hρ
  unfold P_N_leaveLink at hp
  refine lv_aload_n X.1 X.2.1 d_N_leaveLink_0 rfl (hl.at 0 rfl) ?_
  refine r_getr (j := (i0 + 4)) X K hw fg_N_29 (shp_N n0) rfl d_N_leaveLink_1 ?_
  refine lv_iconst (v := (0 : Int32)) X.1 X.2.1 d_N_leaveLink_4 (by decide) ?_
  refine r_put X K hw fp_N_68 (shp_O n0) rfl rfl rfl d_N_leaveLink_5 (fun H locs hw => ?_)
  refine lv_aload_n X.1 X.2.1 d_N_leaveLink_8 rfl (hl.at 0 rfl) ?_
  refine r_getr (j := (i0 + 8)) X K hw fg_N_36 (shp_N n0) rfl d_N_leaveLink_9 ?_
  refine lv_iconst (v := (0 : Int32)) X.1 X.2.1 d_N_leaveLink_12 (by decide) ?_
  refine r_put X K hw fp_N_71 (shp_L n0) rfl rfl rfl d_N_leaveLink_13 (fun H locs hw => ?_)
  refine lv_aload_n X.1 X.2.1 d_N_leaveLink_16 rfl (hl.at 0 rfl) ?_
  refine lv_iconst (v := (0 : Int32)) X.1 X.2.1 d_N_leaveLink_17 (by decide) ?_
  refine r_put X K hw fp_N_72 (shp_N n0) rfl rfl rfl d_N_leaveLink_18 (fun H locs hw => ?_)
  refine lv_aload_n X.1 X.2.1 d_N_leaveLink_21 rfl (hl.at 0 rfl) ?_
  refine lv_iconst (v := (0 : Int32)) X.1 X.2.1 d_N_leaveLink_22 (by decide) ?_
  refine r_put X K hw fp_N_75 (shp_N n0) rfl (by decide) (by decide) d_N_leaveLink_23 (fun H locs hw => ?_)
  refine lv_aload_n X.1 X.2.1 d_N_leaveLink_26 rfl (hl.at 0 rfl) ?_
  refine lv_iconst (v := (0 : Int32)) X.1 X.2.1 d_N_leaveLink_27 (by decide) ?_
  refine r_put X K hw fp_N_53 (shp_N n0) rfl (by decide) (by decide) d_N_leaveLink_28 (fun H locs hw => ?_)
  exact r_vret X hr hk hw ⟨rfl, hρ.symm⟩ d_N_leaveLink_31
set_option maxRecDepth 100000 in
theorem c_N_leaveLink (l : Launch) (D : va_G) (cI cZ : ClassId) (base : Nat) (ad : Nat → Nat) (fz : Nat) (i0 : Nat) (n0 : isN i0) (h : HH) (hp : P_N_leaveLink fz i0 h) : Ct l D cI cZ base ad y_N_leaveLink b_N_leaveLink 1 none 0 0 [.ref (ad i0)] h (pH (B_N_leaveLink fz i0 h)) := by
  refine Ct.of (by decide) (Nat.le_of_ble_eq_true rfl) (cat_ok rfl) ?_
  intro p e s m args below meth c ls X K hr hk hl hw
  exact w_N_leaveLink fz i0 n0 h _ rfl hp X K hr hk hl hw
set_option maxHeartbeats 4000000 in
set_option maxRecDepth 100000 in
theorem w_V_breakLink_21 (X : CallFix p m c b_V_breakLink 2 s args TB R_V) (K : KK D cI cZ s) (hr : meth.sig.returnType = none) (hk : meth.locks = false) (fz : Nat) : ∀ (fu : Nat) (x1 : Int32) (h : HH) (ρ : HH) (_ : B_V_breakLink_21 fz fu x1 h = ρ) (_ : P_V_breakLink_21 fz fu x1 h) {ls : Array Slot} {H : Heap} {locs : List Loc} (_ : Lc ls 2 [some (.ref (ad 0)), some (.int x1)]) (_ : Hw D cI cZ base ad s shape h H locs), W p l e (rmD 2 43) s m args below meth c H locs 0 0 (MQ below (Qw D cI cZ base ad (pH ρ)) args s 0 0 (fun q => base ≤ q)) (F0 m 21 ls []) := by
  intro fu
  induction fu with
  | zero =>
    intro x1 h ρ hρ hp ls H locs hl hw
    exact hp.elim
  | succ fu ih =>
    intro x1 h ρ hρ hp ls H locs hl hw
    rw [B_V_breakLink_21] at hρ
    rw [P_V_breakLink_21] at hp
    refine lv_iload_n X.1 X.2.1 d_V_breakLink_21 rfl (hl.at 1 rfl) ?_
    refine lv_aload_n X.1 X.2.1 d_V_breakLink_22 rfl (hl.at 0 rfl) ?_
    refine r_getr (j := 21) X K hw fg_V_24 rfl rfl d_V_breakLink_23 ?_
    refine r_geti X K hw fg_V_241 rfl rfl d_V_breakLink_26 ?_
    refine lv_icmp_gt (tgt := 56) X.1 X.2.1 d_V_breakLink_29 (by decide) (fun g => ?_) (fun g => ?_)
    · rw [if_pos g] at hρ
      have hp := hp.1 g
      exact r_vret X hr hk hw ⟨rfl, hρ.symm⟩ d_V_breakLink_56
    · rw [if_neg g] at hρ
      have hp := hp.2 g
      refine lv_aload_n X.1 X.2.1 d_V_breakLink_32 rfl (hl.at 0 rfl) ?_
      refine r_getr (j := 21) X K hw fg_V_24 rfl rfl d_V_breakLink_33 ?_
      refine r_getr (j := 26) X K hw fg_V_206 rfl rfl d_V_breakLink_36 ?_
      refine lv_iload_n X.1 X.2.1 d_V_breakLink_39 rfl (hl.at 1 rfl) ?_
      refine r_ald X K hw rfl hp.1 d_V_breakLink_40 ?_
      have hp := hp.2
      refine lv_iconst (v := (1 : Int32)) X.1 X.2.1 d_V_breakLink_41 (by decide) ?_
      refine lv_icmp_ne (tgt := 50) X.1 X.2.1 d_V_breakLink_42 (by decide) (fun g => ?_) (fun g => ?_)
      · rw [if_neg g] at hρ
        have hp := hp.2 g
        refine lv_iincL X.1 X.2.1 hl (v := (x1 + 1)) d_V_breakLink_50 rfl (congrArg (fun z => x1 + z) (by decide)) (by decide) (fun ls hl => ?_)
        have hl : Lc ls 2 [some (.ref (ad 0)), some (.int (x1 + 1))] := hl
        refine lv_goto (tgt := 21) X.1 X.2.1 d_V_breakLink_53 (by decide) ?_
        exact ih (x1 + 1) h ρ hρ hp hl hw
      · rw [if_pos g] at hρ
        have hp := hp.1 g
        refine lv_aload_n X.1 X.2.1 d_V_breakLink_45 rfl (hl.at 0 rfl) ?_
        refine lv_iload_n X.1 X.2.1 d_V_breakLink_46 rfl (hl.at 1 rfl) ?_
        refine r_callV (rest := []) X K hw hl.1 mf_V_104 rfl rfl rfl (c_V_endUpAlone l D cI cZ base ad fz x1 h hp.1) (by decide) ⟨Nat.le_refl _, Nat.le_refl _⟩ rfl rfl (Nat.le_of_ble_eq_true rfl) d_V_breakLink_47 (fun v h' H locs q hw => ?_)
        obtain ⟨rfl, rfl⟩ := q
        have hp := hp.2
        refine lv_iincL X.1 X.2.1 hl (v := (x1 + 1)) d_V_breakLink_50 rfl (congrArg (fun z => x1 + z) (by decide)) (by decide) (fun ls hl => ?_)
        have hl : Lc ls 2 [some (.ref (ad 0)), some (.int (x1 + 1))] := hl
        refine lv_goto (tgt := 21) X.1 X.2.1 d_V_breakLink_53 (by decide) ?_
        exact ih (x1 + 1) (B_V_endUpAlone fz x1 h) ρ hρ hp hl hw
set_option maxHeartbeats 4000000 in
set_option maxRecDepth 100000 in
theorem w_V_breakLink_19 (fz : Nat)  (h : HH) (ρ : HH) (hρ : B_V_breakLink_19 fz  h = ρ) (hp : P_V_breakLink_19 fz  h) (X : CallFix p m c b_V_breakLink 2 s args TB R_V) (K : KK D cI cZ s) (hr : meth.sig.returnType = none) (hk : meth.locks = false) {ls : Array Slot} {H : Heap} {locs : List Loc} (hl : Lc ls 2 [some (.ref (ad 0)), none]) (hw : Hw D cI cZ base ad s shape h H locs) : W p l e (rmD 2 43) s m args below meth c H locs 0 0 (MQ below (Qw D cI cZ base ad (pH ρ)) args s 0 0 (fun q => base ≤ q)) (F0 m 19 ls []) := by
  unfold B_V_breakLink_19 at hρ
  unfold P_V_breakLink_19 at hp
  refine lv_iconst (v := (1 : Int32)) X.1 X.2.1 d_V_breakLink_19 (by decide) ?_
  refine r_istore_n X hl d_V_breakLink_20 rfl (by decide) (fun ls hl => ?_)
  have hl : Lc ls 2 [some (.ref (ad 0)), some (.int (1 : Int32))] := hl
  exact w_V_breakLink_21 X K hr hk fz fz (1 : Int32) h ρ hρ hp hl hw
set_option maxHeartbeats 4000000 in
set_option maxRecDepth 100000 in
theorem w_V_breakLink_12 (fz : Nat)  (h : HH) (ρ : HH) (hρ : B_V_breakLink_12 fz  h = ρ) (hp : P_V_breakLink_12 fz  h) (X : CallFix p m c b_V_breakLink 2 s args TB R_V) (K : KK D cI cZ s) (hr : meth.sig.returnType = none) (hk : meth.locks = false) {ls : Array Slot} {H : Heap} {locs : List Loc} (hl : Lc ls 2 [some (.ref (ad 0)), none]) (hw : Hw D cI cZ base ad s shape h H locs) : W p l e (rmD 2 43) s m args below meth c H locs 0 0 (MQ below (Qw D cI cZ base ad (pH ρ)) args s 0 0 (fun q => base ≤ q)) (F0 m 12 ls []) := by
  unfold B_V_breakLink_12 at hρ
  unfold P_V_breakLink_12 at hp
  refine lv_aload_n X.1 X.2.1 d_V_breakLink_12 rfl (hl.at 0 rfl) ?_
  refine r_getr (j := 11) X K hw fg_V_18 rfl rfl d_V_breakLink_13 ?_
  refine r_callV (rest := []) X K hw hl.1 mf_V_238 (shp_N (Or.inr rfl)) rfl rfl (c_N_leaveLink l D cI cZ base ad fz 11 (Or.inr rfl) h hp.1) (by decide) ⟨Nat.le_refl _, Nat.le_refl _⟩ rfl rfl (Nat.le_of_ble_eq_true rfl) d_V_breakLink_16 (fun v h' H locs q hw => ?_)
  obtain ⟨rfl, rfl⟩ := q
  have hp := hp.2
  exact w_V_breakLink_19 fz  (B_N_leaveLink fz 11 h) ρ hρ hp X K hr hk hl hw
set_option maxHeartbeats 4000000 in
set_option maxRecDepth 100000 in
theorem w_V_breakLink_5 (fz : Nat)  (h : HH) (ρ : HH) (hρ : B_V_breakLink_5 fz  h = ρ) (hp : P_V_breakLink_5 fz  h) (X : CallFix p m c b_V_breakLink 2 s args TB R_V) (K : KK D cI cZ s) (hr : meth.sig.returnType = none) (hk : meth.locks = false) {ls : Array Slot} {H : Heap} {locs : List Loc} (hl : Lc ls 2 [some (.ref (ad 0)), none]) (hw : Hw D cI cZ base ad s shape h H locs) : W p l e (rmD 2 43) s m args below meth c H locs 0 0 (MQ below (Qw D cI cZ base ad (pH ρ)) args s 0 0 (fun q => base ≤ q)) (F0 m 5 ls []) := by
  unfold B_V_breakLink_5 at hρ
  unfold P_V_breakLink_5 at hp
  refine lv_aload_n X.1 X.2.1 d_V_breakLink_5 rfl (hl.at 0 rfl) ?_
  refine r_getr (j := 1) X K hw fg_V_12 rfl rfl d_V_breakLink_6 ?_
  refine r_callV (rest := []) X K hw hl.1 mf_V_238 (shp_N (Or.inl rfl)) rfl rfl (c_N_leaveLink l D cI cZ base ad fz 1 (Or.inl rfl) h hp.1) (by decide) ⟨Nat.le_refl _, Nat.le_refl _⟩ rfl rfl (Nat.le_of_ble_eq_true rfl) d_V_breakLink_9 (fun v h' H locs q hw => ?_)
  obtain ⟨rfl, rfl⟩ := q
  have hp := hp.2
  exact w_V_breakLink_12 fz  (B_N_leaveLink fz 1 h) ρ hρ hp X K hr hk hl hw
set_option maxHeartbeats 4000000 in
set_option maxRecDepth 100000 in
theorem w_V_breakLink (fz : Nat)  (h : HH) (ρ : HH) (hρ : B_V_breakLink fz  h = ρ) (hp : P_V_breakLink fz  h) (X : CallFix p m c b_V_breakLink 2 s args TB R_V) (K : KK D cI cZ s) (hr : meth.sig.returnType = none) (hk : meth.locks = false) {ls : Array Slot} {H : Heap} {locs : List Loc} (hl : Lc ls 2 [some (.ref (ad 0)), none]) (hw : Hw D cI cZ base ad s shape h H locs) : W p l e (rmD 2 43) s m args below meth c H locs 0 0 (MQ below (Qw D cI cZ base ad (pH ρ)) args s 0 0 (fun q => base ≤ q)) (F0 m 0 ls []) := by
  unfold B_V_breakLink at hρ
  unfold P_V_breakLink at hp
  refine lv_aload_n X.1 X.2.1 d_V_breakLink_0 rfl (hl.at 0 rfl) ?_
  refine lv_iconst (v := (0 : Int32)) X.1 X.2.1 d_V_breakLink_1 (by decide) ?_
  refine r_put X K hw fp_V_28 rfl rfl (by decide) (by decide) d_V_breakLink_2 (fun H locs hw => ?_)
  exact w_V_breakLink_5 fz  (u2 h 0 3 (0 : Int32)) ρ hρ hp X K hr hk hl hw
set_option maxRecDepth 100000 in
theorem c_V_breakLink (l : Launch) (D : va_G) (cI cZ : ClassId) (base : Nat) (ad : Nat → Nat) (fz : Nat)  (h : HH) (hp : P_V_breakLink fz  h) : Ct l D cI cZ base ad y_V_breakLink b_V_breakLink 2 none 2 43 [.ref (ad 0)] h (pH (B_V_breakLink fz  h)) := by
  refine Ct.of (by decide) (Nat.le_of_ble_eq_true rfl) (cat_ok rfl) ?_
  intro p e s m args below meth c ls X K hr hk hl hw
  exact w_V_breakLink fz  h _ rfl hp X K hr hk hl hw
set_option maxHeartbeats 4000000 in
set_option maxRecDepth 100000 in
theorem w_V_cut (fz : Nat)  (h : HH) (ρ : Int32 × HH) (hρ : B_V_cut fz  h = ρ) (hp : P_V_cut fz  h) (X : CallFix p m c b_V_cut 1 s args TB R_V) (K : KK D cI cZ s) (hr : meth.sig.returnType = (some .boolean)) (hk : meth.locks = false) {ls : Array Slot} {H : Heap} {locs : List Loc} (hl : Lc ls 1 [some (.ref (ad 0))]) (hw : Hw D cI cZ base ad s shape h H locs) : W p l e (rmD 3 64) s m args below meth c H locs 0 0 (MQ below (Qw D cI cZ base ad (pIH ρ)) args s 0 0 (fun q => base ≤ q)) (F0 m 0 ls []) := by
  unfold B_V_cut at hρ
  unfold P_V_cut at hp
  refine lv_aload_n X.1 X.2.1 d_V_cut_0 rfl (hl.at 0 rfl) ?_
  refine r_geti X K hw fg_V_28 rfl rfl d_V_cut_1 ?_
  refine lv_if_ne (tgt := 9) X.1 X.2.1 d_V_cut_4 (by decide) (fun g => ?_) (fun g => ?_)
  · rw [if_neg g] at hρ
    have hp := hp.2 g
    refine lv_aload_n X.1 X.2.1 d_V_cut_9 rfl (hl.at 0 rfl) ?_
    refine r_callV (rest := []) X K hw hl.1 mf_V_182 rfl rfl rfl (c_V_breakLink l D cI cZ base ad fz  h hp.1) (by decide) ⟨Nat.le_refl _, Nat.le_refl _⟩ rfl rfl (Nat.le_of_ble_eq_true rfl) d_V_cut_10 (fun v h' H locs q hw => ?_)
    obtain ⟨rfl, rfl⟩ := q
    have hp := hp.2
    refine lv_iconst (v := (1 : Int32)) X.1 X.2.1 d_V_cut_13 (by decide) ?_
    exact r_zret X hr hk hw (by decide) ⟨congrArg (fun z => some (Value.int z.1)) hρ, (congrArg Prod.snd hρ).symm⟩ d_V_cut_14
  · rw [if_pos g] at hρ
    have hp := hp.1 g
    refine lv_iconst (v := (0 : Int32)) X.1 X.2.1 d_V_cut_7 (by decide) ?_
    exact r_zret X hr hk hw (by decide) ⟨congrArg (fun z => some (Value.int z.1)) hρ, (congrArg Prod.snd hρ).symm⟩ d_V_cut_8
set_option maxRecDepth 100000 in
theorem c_V_cut (l : Launch) (D : va_G) (cI cZ : ClassId) (base : Nat) (ad : Nat → Nat) (fz : Nat)  (h : HH) (hp : P_V_cut fz  h) : Ct l D cI cZ base ad y_V_cut b_V_cut 1 (some .boolean) 3 64 [.ref (ad 0)] h (pIH (B_V_cut fz  h)) := by
  refine Ct.of (by decide) (Nat.le_of_ble_eq_true rfl) (cat_ok rfl) ?_
  intro p e s m args below meth c ls X K hr hk hl hw
  exact w_V_cut fz  h _ rfl hp X K hr hk hl hw
set_option maxHeartbeats 4000000 in
set_option maxRecDepth 100000 in
theorem w_V_crash_68 (fz : Nat)  (h : HH) (ρ : Int32 × HH) (hρ : B_V_crash_68 fz  h = ρ) (hp : P_V_crash_68 fz  h) (X : CallFix p m c b_V_crash 3 s args TB R_V) (K : KK D cI cZ s) (hr : meth.sig.returnType = (some .boolean)) (hk : meth.locks = false) {ls : Array Slot} {H : Heap} {locs : List Loc} (hl : Lc ls 3 [some (.ref (ad 0)), none, none]) (hw : Hw D cI cZ base ad s shape h H locs) : W p l e (rmD 3 64) s m args below meth c H locs 0 0 (MQ below (Qw D cI cZ base ad (pIH ρ)) args s 0 0 (fun q => base ≤ q)) (F0 m 68 ls []) := by
  unfold B_V_crash_68 at hρ
  unfold P_V_crash_68 at hp
  refine lv_aload_n X.1 X.2.1 d_V_crash_68 rfl (hl.at 0 rfl) ?_
  refine r_geti X K hw fg_V_28 rfl rfl d_V_crash_69 ?_
  refine lv_if_eq (tgt := 79) X.1 X.2.1 d_V_crash_72 (by decide) (fun g => ?_) (fun g => ?_)
  · rw [if_pos g] at hρ
    have hp := hp.1 g
    refine lv_iconst (v := (1 : Int32)) X.1 X.2.1 d_V_crash_79 (by decide) ?_
    exact r_zret X hr hk hw (by decide) ⟨congrArg (fun z => some (Value.int z.1)) hρ, (congrArg Prod.snd hρ).symm⟩ d_V_crash_80
  · rw [if_neg g] at hρ
    have hp := hp.2 g
    refine lv_aload_n X.1 X.2.1 d_V_crash_75 rfl (hl.at 0 rfl) ?_
    refine r_callV (rest := []) X K hw hl.1 mf_V_182 rfl rfl rfl (c_V_breakLink l D cI cZ base ad fz  h hp.1) (by decide) ⟨Nat.le_refl _, Nat.le_refl _⟩ rfl rfl (Nat.le_of_ble_eq_true rfl) d_V_crash_76 (fun v h' H locs q hw => ?_)
    obtain ⟨rfl, rfl⟩ := q
    have hp := hp.2
    refine lv_iconst (v := (1 : Int32)) X.1 X.2.1 d_V_crash_79 (by decide) ?_
    exact r_zret X hr hk hw (by decide) ⟨congrArg (fun z => some (Value.int z.1)) hρ, (congrArg Prod.snd hρ).symm⟩ d_V_crash_80
set_option maxHeartbeats 4000000 in
set_option maxRecDepth 100000 in
theorem w_V_crash_51 (fz : Nat) (i2 : Nat) (n2 : isN i2) (h : HH) (ρ : Int32 × HH) (hρ : B_V_crash_51 fz i2 h = ρ) (hp : P_V_crash_51 fz i2 h) (X : CallFix p m c b_V_crash 3 s args TB R_V) (K : KK D cI cZ s) (hr : meth.sig.returnType = (some .boolean)) (hk : meth.locks = false) {ls : Array Slot} {H : Heap} {locs : List Loc} (hl : Lc ls 3 [some (.ref (ad 0)), none, some (.ref (ad i2))]) (hw : Hw D cI cZ base ad s shape h H locs) : W p l e (rmD 3 64) s m args below meth c H locs 0 0 (MQ below (Qw D cI cZ base ad (pIH ρ)) args s 0 0 (fun q => base ≤ q)) (F0 m 51 ls []) := by
  unfold B_V_crash_51 at hρ
  unfold P_V_crash_51 at hp
  refine lv_aload_n X.1 X.2.1 d_V_crash_51 rfl (hl.at 2 rfl) ?_
  refine r_geti X K hw fg_V_50 (shp_N n2) rfl d_V_crash_52 ?_
  refine lv_if_eq (tgt := 68) X.1 X.2.1 d_V_crash_55 (by decide) (fun g => ?_) (fun g => ?_)
  · rw [if_pos g] at hρ
    have hp := hp.1 g
    have hl : Lc ls 3 [some (.ref (ad 0)), none, none] := hl.mask [true, false, false]
    exact w_V_crash_68 fz  h ρ hρ hp X K hr hk hl hw
  · rw [if_neg g] at hρ
    have hp := hp.2 g
    refine lv_aload_n X.1 X.2.1 d_V_crash_58 rfl (hl.at 2 rfl) ?_
    refine lv_iconst (v := (1 : Int32)) X.1 X.2.1 d_V_crash_59 (by decide) ?_
    refine r_put X K hw fp_V_188 (shp_N n2) rfl (by decide) (by decide) d_V_crash_60 (fun H locs hw => ?_)
    refine lv_aload_n X.1 X.2.1 d_V_crash_63 rfl (hl.at 2 rfl) ?_
    refine lv_iconst (v := (0 : Int32)) X.1 X.2.1 d_V_crash_64 (by decide) ?_
    refine r_put X K hw fp_V_50 (shp_N n2) rfl (by decide) (by decide) d_V_crash_65 (fun H locs hw => ?_)
    have hl : Lc ls 3 [some (.ref (ad 0)), none, none] := hl.mask [true, false, false]
    exact w_V_crash_68 fz  (u2 (u2 h i2 9 (1 : Int32)) i2 11 (0 : Int32)) ρ hρ hp X K hr hk hl hw
set_option maxHeartbeats 4000000 in
set_option maxRecDepth 100000 in
theorem w_V_crash_41 (fz : Nat) (x1 : Int32) (i2 : Nat) (n2 : isN i2) (h : HH) (ρ : Int32 × HH) (hρ : B_V_crash_41 fz x1 i2 h = ρ) (hp : P_V_crash_41 fz x1 i2 h) (X : CallFix p m c b_V_crash 3 s args TB R_V) (K : KK D cI cZ s) (hr : meth.sig.returnType = (some .boolean)) (hk : meth.locks = false) {ls : Array Slot} {H : Heap} {locs : List Loc} (hl : Lc ls 3 [some (.ref (ad 0)), some (.int x1), some (.ref (ad i2))]) (hw : Hw D cI cZ base ad s shape h H locs) : W p l e (rmD 3 64) s m args below meth c H locs 0 0 (MQ below (Qw D cI cZ base ad (pIH ρ)) args s 0 0 (fun q => base ≤ q)) (F0 m 41 ls []) := by
  unfold B_V_crash_41 at hρ
  unfold P_V_crash_41 at hp
  refine lv_aload_n X.1 X.2.1 d_V_crash_41 rfl (hl.at 0 rfl) ?_
  refine r_getr (j := 21) X K hw fg_V_24 rfl rfl d_V_crash_42 ?_
  refine lv_iload_n X.1 X.2.1 d_V_crash_45 rfl (hl.at 1 rfl) ?_
  refine lv_iconst (v := (3 : Int32)) X.1 X.2.1 d_V_crash_46 (by decide) ?_
  refine lv_iconst (v := (4 : Int32)) X.1 X.2.1 d_V_crash_47 (by decide) ?_
  refine r_callV (rest := []) X K hw hl.1 mf_V_185 rfl rfl rfl (c_T_changeFates l D cI cZ base ad fz x1 (3 : Int32) (4 : Int32) h hp.1) (by decide) ⟨Nat.le_refl _, Nat.le_refl _⟩ rfl rfl (Nat.le_of_ble_eq_true rfl) d_V_crash_48 (fun v h' H locs q hw => ?_)
  obtain ⟨rfl, rfl⟩ := q
  have hp := hp.2
  have hl : Lc ls 3 [some (.ref (ad 0)), none, some (.ref (ad i2))] := hl.mask [true, false, true]
  exact w_V_crash_51 fz i2 n2 (B_T_changeFates fz x1 (3 : Int32) (4 : Int32) h) ρ hρ hp X K hr hk hl hw
set_option maxHeartbeats 4000000 in
set_option maxRecDepth 100000 in
theorem w_V_crash_31 (fz : Nat) (x1 : Int32) (i2 : Nat) (n2 : isN i2) (h : HH) (ρ : Int32 × HH) (hρ : B_V_crash_31 fz x1 i2 h = ρ) (hp : P_V_crash_31 fz x1 i2 h) (X : CallFix p m c b_V_crash 3 s args TB R_V) (K : KK D cI cZ s) (hr : meth.sig.returnType = (some .boolean)) (hk : meth.locks = false) {ls : Array Slot} {H : Heap} {locs : List Loc} (hl : Lc ls 3 [some (.ref (ad 0)), some (.int x1), some (.ref (ad i2))]) (hw : Hw D cI cZ base ad s shape h H locs) : W p l e (rmD 3 64) s m args below meth c H locs 0 0 (MQ below (Qw D cI cZ base ad (pIH ρ)) args s 0 0 (fun q => base ≤ q)) (F0 m 31 ls []) := by
  unfold B_V_crash_31 at hρ
  unfold P_V_crash_31 at hp
  refine lv_aload_n X.1 X.2.1 d_V_crash_31 rfl (hl.at 0 rfl) ?_
  refine r_getr (j := 21) X K hw fg_V_24 rfl rfl d_V_crash_32 ?_
  refine lv_iload_n X.1 X.2.1 d_V_crash_35 rfl (hl.at 1 rfl) ?_
  refine lv_iconst (v := (1 : Int32)) X.1 X.2.1 d_V_crash_36 (by decide) ?_
  refine lv_iconst (v := (4 : Int32)) X.1 X.2.1 d_V_crash_37 (by decide) ?_
  refine r_callV (rest := []) X K hw hl.1 mf_V_185 rfl rfl rfl (c_T_changeFates l D cI cZ base ad fz x1 (1 : Int32) (4 : Int32) h hp.1) (by decide) ⟨Nat.le_refl _, Nat.le_refl _⟩ rfl rfl (Nat.le_of_ble_eq_true rfl) d_V_crash_38 (fun v h' H locs q hw => ?_)
  obtain ⟨rfl, rfl⟩ := q
  have hp := hp.2
  exact w_V_crash_41 fz x1 i2 n2 (B_T_changeFates fz x1 (1 : Int32) (4 : Int32) h) ρ hρ hp X K hr hk hl hw
set_option maxHeartbeats 4000000 in
set_option maxRecDepth 100000 in
theorem w_V_crash (fz : Nat) (x1 : Int32) (h : HH) (ρ : Int32 × HH) (hρ : B_V_crash fz x1 h = ρ) (hp : P_V_crash fz x1 h) (X : CallFix p m c b_V_crash 3 s args TB R_V) (K : KK D cI cZ s) (hr : meth.sig.returnType = (some .boolean)) (hk : meth.locks = false) {ls : Array Slot} {H : Heap} {locs : List Loc} (hl : Lc ls 3 [some (.ref (ad 0)), some (.int x1), none]) (hw : Hw D cI cZ base ad s shape h H locs) : W p l e (rmD 3 64) s m args below meth c H locs 0 0 (MQ below (Qw D cI cZ base ad (pIH ρ)) args s 0 0 (fun q => base ≤ q)) (F0 m 0 ls []) := by
  unfold B_V_crash at hρ
  unfold P_V_crash at hp
  refine lv_iload_n X.1 X.2.1 d_V_crash_0 rfl (hl.at 1 rfl) ?_
  refine r_callS (rest := []) X K hw hl.1 mf_V_36 (c_V_isNode l D cI cZ base ad fz x1 h hp.1) (by decide) ⟨Nat.le_refl _, Nat.le_refl _⟩ rfl rfl (Nat.le_of_ble_eq_true rfl) d_V_crash_1 (fun v h' H locs q hw => ?_)
  obtain ⟨rfl, rfl⟩ := q
  have hp := hp.2
  refine lv_if_eq (tgt := 18) X.1 X.2.1 d_V_crash_4 (by decide) (fun g => ?_) (fun g => ?_)
  · rw [if_pos g] at hρ
    have hp := hp.1 g
    refine lv_iconst (v := (0 : Int32)) X.1 X.2.1 d_V_crash_18 (by decide) ?_
    exact r_zret X hr hk hw (by decide) ⟨congrArg (fun z => some (Value.int z.1)) hρ, (congrArg Prod.snd hρ).symm⟩ d_V_crash_19
  · rw [if_neg g] at hρ
    have hp := hp.2 g
    refine lv_aload_n X.1 X.2.1 d_V_crash_7 rfl (hl.at 0 rfl) ?_
    refine lv_iload_n X.1 X.2.1 d_V_crash_8 rfl (hl.at 1 rfl) ?_
    refine r_callV (rest := []) X K hw hl.1 mf_V_43 rfl rfl rfl (c_V_nodeOf l D cI cZ base ad fz x1 h hp.1) (by decide) ⟨Nat.le_refl _, Nat.le_refl _⟩ rfl rfl (Nat.le_of_ble_eq_true rfl) d_V_crash_9 (fun v h' H locs q hw => ?_)
    obtain ⟨rfl, rfl⟩ := q
    have hp := hp.2
    refine r_geti X K hw fg_V_47 (shp_N (isN_V_nodeOf fz x1 h)) rfl d_V_crash_12 ?_
    refine lv_if_ne (tgt := 20) X.1 X.2.1 d_V_crash_15 (by decide) (fun g => ?_) (fun g => ?_)
    · rw [if_neg g] at hρ
      have hp := hp.2 g
      refine lv_aload_n X.1 X.2.1 d_V_crash_20 rfl (hl.at 0 rfl) ?_
      refine lv_iload_n X.1 X.2.1 d_V_crash_21 rfl (hl.at 1 rfl) ?_
      refine r_callV (rest := []) X K hw hl.1 mf_V_43 rfl rfl rfl (c_V_nodeOf l D cI cZ base ad fz x1 h hp.1) (by decide) ⟨Nat.le_refl _, Nat.le_refl _⟩ rfl rfl (Nat.le_of_ble_eq_true rfl) d_V_crash_22 (fun v h' H locs q hw => ?_)
      obtain ⟨rfl, rfl⟩ := q
      have hp := hp.2
      refine r_astore_n X hl d_V_crash_25 rfl (by decide) (fun ls hl => ?_)
      have hl : Lc ls 3 [some (.ref (ad 0)), some (.int x1), some (.ref (ad (B_V_nodeOf fz x1 h)))] := hl
      refine lv_aload_n X.1 X.2.1 d_V_crash_26 rfl (hl.at 2 rfl) ?_
      refine lv_iconst (v := (0 : Int32)) X.1 X.2.1 d_V_crash_27 (by decide) ?_
      refine r_put X K hw fp_V_47 (shp_N (isN_V_nodeOf fz x1 h)) rfl (by decide) (by decide) d_V_crash_28 (fun H locs hw => ?_)
      exact w_V_crash_31 fz x1 (B_V_nodeOf fz x1 h) (isN_V_nodeOf fz x1 h) (u2 h (B_V_nodeOf fz x1 h) 10 (0 : Int32)) ρ hρ hp X K hr hk hl hw
    · rw [if_pos g] at hρ
      have hp := hp.1 g
      refine lv_iconst (v := (0 : Int32)) X.1 X.2.1 d_V_crash_18 (by decide) ?_
      exact r_zret X hr hk hw (by decide) ⟨congrArg (fun z => some (Value.int z.1)) hρ, (congrArg Prod.snd hρ).symm⟩ d_V_crash_19
set_option maxRecDepth 100000 in
theorem c_V_crash (l : Launch) (D : va_G) (cI cZ : ClassId) (base : Nat) (ad : Nat → Nat) (fz : Nat) (x1 : Int32) (h : HH) (hp : P_V_crash fz x1 h) : Ct l D cI cZ base ad y_V_crash b_V_crash 3 (some .boolean) 3 64 [.ref (ad 0), .int x1] h (pIH (B_V_crash fz x1 h)) := by
  refine Ct.of (by decide) (Nat.le_of_ble_eq_true rfl) (cat_ok rfl) ?_
  intro p e s m args below meth c ls X K hr hk hl hw
  exact w_V_crash fz x1 h _ rfl hp X K hr hk hl hw
set_option maxHeartbeats 4000000 in
set_option maxRecDepth 100000 in
theorem w_E_allBlocks_4 (X : CallFix p m c b_E_allBlocks 3 s args TB R_E) (K : KK D cI cZ s) (hr : meth.sig.returnType = (some .int)) (hk : meth.locks = false) (fz : Nat) : ∀ (fu : Nat) (i0 : Nat) (n0 : isN i0) (x1 : Int32) (x2 : Int32) (h : HH) (ρ : Int32) (_ : B_E_allBlocks_4 fz fu i0 x1 x2 h = ρ) (_ : P_E_allBlocks_4 fz fu i0 x1 x2 h) {ls : Array Slot} {H : Heap} {locs : List Loc} (_ : Lc ls 3 [some (.ref (ad (i0 + 2))), some (.int x1), some (.int x2)]) (_ : Hw D cI cZ base ad s shape h H locs), W p l e (rmD 1 20) s m args below meth c H locs 0 0 (MQ below (Qw D cI cZ base ad (pI h ρ)) args s 0 0 (fun q => base ≤ q)) (F0 m 4 ls []) := by
  intro fu
  induction fu with
  | zero =>
    intro i0 n0 x1 x2 h ρ hρ hp ls H locs hl hw
    exact hp.elim
  | succ fu ih =>
    intro i0 n0 x1 x2 h ρ hρ hp ls H locs hl hw
    rw [B_E_allBlocks_4] at hρ
    rw [P_E_allBlocks_4] at hp
    refine lv_iload_n X.1 X.2.1 d_E_allBlocks_4 rfl (hl.at 2 rfl) ?_
    refine lv_aload_n X.1 X.2.1 d_E_allBlocks_5 rfl (hl.at 0 rfl) ?_
    refine r_geti X K hw fg_E_15 (shp_E n0) rfl d_E_allBlocks_6 ?_
    refine lv_icmp_ge (tgt := 30) X.1 X.2.1 d_E_allBlocks_9 (by decide) (fun g => ?_) (fun g => ?_)
    · rw [if_pos g] at hρ
      have hp := hp.1 g
      refine lv_iload_n X.1 X.2.1 d_E_allBlocks_30 rfl (hl.at 1 rfl) ?_
      exact r_iret X hr hk hw ⟨congrArg (fun z => some (Value.int z)) hρ, rfl⟩ d_E_allBlocks_31
    · rw [if_neg g] at hρ
      have hp := hp.2 g
      refine lv_iload_n X.1 X.2.1 d_E_allBlocks_12 rfl (hl.at 1 rfl) ?_
      refine lv_aload_n X.1 X.2.1 d_E_allBlocks_13 rfl (hl.at 0 rfl) ?_
      refine r_getr (j := (i0 + 3)) X K hw fg_E_9 (shp_E n0) rfl d_E_allBlocks_14 ?_
      refine lv_iload_n X.1 X.2.1 d_E_allBlocks_17 rfl (hl.at 2 rfl) ?_
      refine r_ald X K hw (sha_3 n0) hp.1 d_E_allBlocks_18 ?_
      have hp := hp.2
      refine r_callSN (rest := [.int x1]) X K hw hl.1 K.2 mf_E_19 (c_V_blocksOfExtent l D cI cZ base ad fz (h (i0 + 3) (ix x2)) h hp.1) (by decide) ⟨Nat.le_refl _, Nat.le_refl _⟩ rfl rfl (Nat.le_of_ble_eq_true rfl) d_E_allBlocks_19 (fun v h' H locs q hw => ?_)
      obtain ⟨rfl, rfl⟩ := q
      have hp := hp.2
      refine lv_ior X.1 X.2.1 d_E_allBlocks_22 ?_
      refine r_istore_n X hl d_E_allBlocks_23 rfl (by decide) (fun ls hl => ?_)
      have hl : Lc ls 3 [some (.ref (ad (i0 + 2))), some (.int (x1 ||| (B_V_blocksOfExtent fz (h (i0 + 3) (ix x2)) h))), some (.int x2)] := hl
      refine lv_iincL X.1 X.2.1 hl (v := (x2 + 1)) d_E_allBlocks_24 rfl (congrArg (fun z => x2 + z) (by decide)) (by decide) (fun ls hl => ?_)
      have hl : Lc ls 3 [some (.ref (ad (i0 + 2))), some (.int (x1 ||| (B_V_blocksOfExtent fz (h (i0 + 3) (ix x2)) h))), some (.int (x2 + 1))] := hl
      refine lv_goto (tgt := 4) X.1 X.2.1 d_E_allBlocks_27 (by decide) ?_
      exact ih i0 n0 (x1 ||| (B_V_blocksOfExtent fz (h (i0 + 3) (ix x2)) h)) (x2 + 1) h ρ hρ hp hl hw
set_option maxHeartbeats 4000000 in
set_option maxRecDepth 100000 in
theorem w_E_allBlocks (fz : Nat) (i0 : Nat) (n0 : isN i0) (h : HH) (ρ : Int32) (hρ : B_E_allBlocks fz i0 h = ρ) (hp : P_E_allBlocks fz i0 h) (X : CallFix p m c b_E_allBlocks 3 s args TB R_E) (K : KK D cI cZ s) (hr : meth.sig.returnType = (some .int)) (hk : meth.locks = false) {ls : Array Slot} {H : Heap} {locs : List Loc} (hl : Lc ls 3 [some (.ref (ad (i0 + 2))), none, none]) (hw : Hw D cI cZ base ad s shape h H locs) : W p l e (rmD 1 20) s m args below meth c H locs 0 0 (MQ below (Qw D cI cZ base ad (pI h ρ)) args s 0 0 (fun q => base ≤ q)) (F0 m 0 ls []) := by
  unfold B_E_allBlocks at hρ
  unfold P_E_allBlocks at hp
  refine lv_iconst (v := (0 : Int32)) X.1 X.2.1 d_E_allBlocks_0 (by decide) ?_
  refine r_istore_n X hl d_E_allBlocks_1 rfl (by decide) (fun ls hl => ?_)
  have hl : Lc ls 3 [some (.ref (ad (i0 + 2))), some (.int (0 : Int32)), none] := hl
  refine lv_iconst (v := (0 : Int32)) X.1 X.2.1 d_E_allBlocks_2 (by decide) ?_
  refine r_istore_n X hl d_E_allBlocks_3 rfl (by decide) (fun ls hl => ?_)
  have hl : Lc ls 3 [some (.ref (ad (i0 + 2))), some (.int (0 : Int32)), some (.int (0 : Int32))] := hl
  exact w_E_allBlocks_4 X K hr hk fz fz i0 n0 (0 : Int32) (0 : Int32) h ρ hρ hp hl hw
set_option maxRecDepth 100000 in
theorem c_E_allBlocks (l : Launch) (D : va_G) (cI cZ : ClassId) (base : Nat) (ad : Nat → Nat) (fz : Nat) (i0 : Nat) (n0 : isN i0) (h : HH) (hp : P_E_allBlocks fz i0 h) : Ct l D cI cZ base ad y_E_allBlocks b_E_allBlocks 3 (some .int) 1 20 [.ref (ad (i0 + 2))] h (pI h (B_E_allBlocks fz i0 h)) := by
  refine Ct.of (by decide) (Nat.le_of_ble_eq_true rfl) (cat_ok rfl) ?_
  intro p e s m args below meth c ls X K hr hk hl hw
  exact w_E_allBlocks fz i0 n0 h _ rfl hp X K hr hk hl hw
end WALK
