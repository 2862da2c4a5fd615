section LOOP
variable {p : Program} {l : Launch} {e : Env} {s : State} {m : MethodId} {below : List Frame} {meth : Method} {c : Code} {D : va_G} {cI cZ : ClassId} {ad : Nat → Nat} {b L : Nat} {xs : Nat → Int32}
set_option maxHeartbeats 4000000 in
set_option maxRecDepth 100000 in
theorem law_loop (X : CallFix p m c code 4 s #[Value.ref b] TB R_W) (K : KK D cI cZ s) (hX : va_X b L xs s s.heap) (hbl : b < s.heap.size) (hL : L ≤ 2048) (hr : meth.sig.returnType = ret) (hlk : meth.locks = false) : ∀ (k i t : Nat) (h : HH) (H : Heap) (locs : List Loc) (ls : Array Slot), i + 4 * k ≤ L → L < i + 4 * k + 4 → t + k ≤ 600 → J2 t h h → Hw D cI cZ s.heap.size ad s shape h H locs → Lc ls 4 [some (.ref b), some (.ref (ad 0)), some (.ref (ad 27)), some (.int (nI i))] → W p l e room_1 s m #[Value.ref b] below meth c H locs 52 4204 (lw_Z below #[Value.ref b] s) (F0 m 18 ls []) := by
  intro k
  induction k with
  | zero =>
    intro i t h H locs ls h1 h2 h3 hJ hw hl
    have hgt : Int32.ofNat L - (4 : Int32) < nI i := by
      show nI L - (4 : Int32) < nI i
      rw [li4, Int32.lt_iff_toInt_lt, pk_sub_toInt (by omega) (by omega), nI_toInt (by omega)]
      omega
    refine lv_iload_n X.1 X.2.1 d_W_law_18 rfl (hl.at 3 rfl) ?_
    refine lv_aload_n X.1 X.2.1 d_W_law_19 rfl (hl.at 0 rfl) ?_
    refine va_slen X.1 X.2.1 hX hbl (Nat.not_le.mpr hbl) hw.2.1 d_W_law_20 ?_
    refine lv_iconst (v := (4 : Int32)) X.1 X.2.1 d_W_law_21 (by decide) ?_
    refine lv_isub X.1 X.2.1 d_W_law_22 ?_
    refine lv_icmp_gt (tgt := 598) X.1 X.2.1 d_W_law_23 (by decide) (fun _ => ?_) (fun g => absurd hgt g)
    refine lv_iconst (v := (1 : Int32)) X.1 X.2.1 d_W_law_598 (by decide) ?_
    exact va_forget hw.2.1.2.2 (lw_ret X.1 X.2.1 hr hlk d_W_law_599)
  | succ k ih =>
    intro i t h H locs ls h1 h2 h3 hJ hw hl
    have hgt : ¬ Int32.ofNat L - (4 : Int32) < nI i := by
      show ¬ nI L - (4 : Int32) < nI i
      rw [li4, Int32.lt_iff_toInt_lt, pk_sub_toInt (by omega) (by omega), nI_toInt (by omega)]
      omega
    have hinc : nI i + Int32.ofInt 4 = nI (i + 4) := by
      rw [show Int32.ofInt 4 = nI 4 by decide +kernel, nI_add]
    have cont : ∀ (h2 : HH) (H2 : Heap) (locs2 : List Loc), J2 (t + 1) h2 h2 → Hw D cI cZ s.heap.size ad s shape h2 H2 locs2 → W p l e room_1 s m #[Value.ref b] below meth c H2 locs2 52 4204 (lw_Z below #[Value.ref b] s) (F0 m 592 ls []) := by
      intro h2 H2 locs2 hJ2 hw2
      refine lv_iincL X.1 X.2.1 hl (v := nI (i + 4)) d_W_law_592 rfl hinc (by decide) (fun ls hl => ?_)
      refine lv_goto (tgt := 18) X.1 X.2.1 d_W_law_595 (by decide) ?_
      exact ih (i + 4) (t + 1) h2 H2 locs2 ls (by omega) (by omega) (by omega) hJ2 hw2 hl
    refine lv_iload_n X.1 X.2.1 d_W_law_18 rfl (hl.at 3 rfl) ?_
    refine lv_aload_n X.1 X.2.1 d_W_law_19 rfl (hl.at 0 rfl) ?_
    refine va_slen X.1 X.2.1 hX hbl (Nat.not_le.mpr hbl) hw.2.1 d_W_law_20 ?_
    refine lv_iconst (v := (4 : Int32)) X.1 X.2.1 d_W_law_21 (by decide) ?_
    refine lv_isub X.1 X.2.1 d_W_law_22 ?_
    refine lv_icmp_gt (tgt := 598) X.1 X.2.1 d_W_law_23 (by decide) (fun g => absurd g hgt) (fun _ => ?_)
    refine lv_aload_n X.1 X.2.1 d_W_law_26 rfl (hl.at 0 rfl) ?_
    refine lv_iload_n X.1 X.2.1 d_W_law_27 rfl (hl.at 3 rfl) ?_
    refine va_sld X.1 X.2.1 hX hbl (Nat.not_le.mpr hbl) hw.2.1 (vp_in_nI (by omega) (by omega)) d_W_law_28 ?_
    refine lv_bipush (v := (31 : Int32)) X.1 X.2.1 d_W_law_29 (by decide) ?_
    refine lv_iand X.1 X.2.1 d_W_law_31 ?_
    generalize xs (nI i).toNatClampNeg &&& (31 : Int32) = y
    by_cases g0 : y = (0 : Int32)
    · refine lv_tableIn (tgt := 124) (off := 92) X.1 X.2.1 d_W_law_32 (by rw [g0]; decide) (by rw [g0]; decide) (by rw [g0]; decide) (by decide) ?_
      exact law_0 X K hX hbl hL (by omega) 400 (Nat.le_refl _) (by omega) hJ hw hl cont
    by_cases g1 : y = (1 : Int32)
    · refine lv_tableIn (tgt := 167) (off := 135) X.1 X.2.1 d_W_law_32 (by rw [g1]; decide) (by rw [g1]; decide) (by rw [g1]; decide) (by decide) ?_
      exact law_1 X K hX hbl hL (by omega) 400 (Nat.le_refl _) (by omega) hJ hw hl cont
    by_cases g2 : y = (2 : Int32)
    · refine lv_tableIn (tgt := 190) (off := 158) X.1 X.2.1 d_W_law_32 (by rw [g2]; decide) (by rw [g2]; decide) (by rw [g2]; decide) (by decide) ?_
      exact law_2 X K hX hbl hL (by omega) 400 (Nat.le_refl _) (by omega) hJ hw hl cont
    by_cases g3 : y = (3 : Int32)
    · refine lv_tableIn (tgt := 213) (off := 181) X.1 X.2.1 d_W_law_32 (by rw [g3]; decide) (by rw [g3]; decide) (by rw [g3]; decide) (by decide) ?_
      exact law_3 X K hX hbl hL (by omega) 400 (Nat.le_refl _) (by omega) hJ hw hl cont
    by_cases g4 : y = (4 : Int32)
    · refine lv_tableIn (tgt := 246) (off := 214) X.1 X.2.1 d_W_law_32 (by rw [g4]; decide) (by rw [g4]; decide) (by rw [g4]; decide) (by decide) ?_
      exact law_4 X K hX hbl hL (by omega) 400 (Nat.le_refl _) (by omega) hJ hw hl cont
    by_cases g5 : y = (5 : Int32)
    · refine lv_tableIn (tgt := 269) (off := 237) X.1 X.2.1 d_W_law_32 (by rw [g5]; decide) (by rw [g5]; decide) (by rw [g5]; decide) (by decide) ?_
      exact law_5 X K hX hbl hL (by omega) 400 (Nat.le_refl _) (by omega) hJ hw hl cont
    by_cases g6 : y = (6 : Int32)
    · refine lv_tableIn (tgt := 282) (off := 250) X.1 X.2.1 d_W_law_32 (by rw [g6]; decide) (by rw [g6]; decide) (by rw [g6]; decide) (by decide) ?_
      exact law_6 X K hX hbl hL (by omega) 400 (Nat.le_refl _) (by omega) hJ hw hl cont
    by_cases g7 : y = (7 : Int32)
    · refine lv_tableIn (tgt := 295) (off := 263) X.1 X.2.1 d_W_law_32 (by rw [g7]; decide) (by rw [g7]; decide) (by rw [g7]; decide) (by decide) ?_
      exact law_7 X K hX hbl hL (by omega) 400 (Nat.le_refl _) (by omega) hJ hw hl cont
    by_cases g8 : y = (8 : Int32)
    · refine lv_tableIn (tgt := 318) (off := 286) X.1 X.2.1 d_W_law_32 (by rw [g8]; decide) (by rw [g8]; decide) (by rw [g8]; decide) (by decide) ?_
      exact law_8 X K hX hbl hL (by omega) 400 (Nat.le_refl _) (by omega) hJ hw hl cont
    by_cases g9 : y = (9 : Int32)
    · refine lv_tableIn (tgt := 341) (off := 309) X.1 X.2.1 d_W_law_32 (by rw [g9]; decide) (by rw [g9]; decide) (by rw [g9]; decide) (by decide) ?_
      exact law_9 X K hX hbl hL (by omega) 400 (Nat.le_refl _) (by omega) hJ hw hl cont
    by_cases g10 : y = (10 : Int32)
    · refine lv_tableIn (tgt := 364) (off := 332) X.1 X.2.1 d_W_law_32 (by rw [g10]; decide) (by rw [g10]; decide) (by rw [g10]; decide) (by decide) ?_
      exact law_10 X K hX hbl hL (by omega) 400 (Nat.le_refl _) (by omega) hJ hw hl cont
    by_cases g11 : y = (11 : Int32)
    · refine lv_tableIn (tgt := 387) (off := 355) X.1 X.2.1 d_W_law_32 (by rw [g11]; decide) (by rw [g11]; decide) (by rw [g11]; decide) (by decide) ?_
      exact law_11 X K hX hbl hL (by omega) 400 (Nat.le_refl _) (by omega) hJ hw hl cont
    by_cases g12 : y = (12 : Int32)
    · refine lv_tableIn (tgt := 410) (off := 378) X.1 X.2.1 d_W_law_32 (by rw [g12]; decide) (by rw [g12]; decide) (by rw [g12]; decide) (by decide) ?_
      exact law_12 X K hX hbl hL (by omega) 400 (Nat.le_refl _) (by omega) hJ hw hl cont
    by_cases g13 : y = (13 : Int32)
    · refine lv_tableIn (tgt := 443) (off := 411) X.1 X.2.1 d_W_law_32 (by rw [g13]; decide) (by rw [g13]; decide) (by rw [g13]; decide) (by decide) ?_
      exact law_13 X K hX hbl hL (by omega) 400 (Nat.le_refl _) (by omega) hJ hw hl cont
    by_cases g14 : y = (14 : Int32)
    · refine lv_tableIn (tgt := 466) (off := 434) X.1 X.2.1 d_W_law_32 (by rw [g14]; decide) (by rw [g14]; decide) (by rw [g14]; decide) (by decide) ?_
      exact law_14 X K hX hbl hL (by omega) 400 (Nat.le_refl _) (by omega) hJ hw hl cont
    by_cases g15 : y = (15 : Int32)
    · refine lv_tableIn (tgt := 489) (off := 457) X.1 X.2.1 d_W_law_32 (by rw [g15]; decide) (by rw [g15]; decide) (by rw [g15]; decide) (by decide) ?_
      exact law_15 X K hX hbl hL (by omega) 400 (Nat.le_refl _) (by omega) hJ hw hl cont
    by_cases g16 : y = (16 : Int32)
    · refine lv_tableIn (tgt := 513) (off := 481) X.1 X.2.1 d_W_law_32 (by rw [g16]; decide) (by rw [g16]; decide) (by rw [g16]; decide) (by decide) ?_
      exact law_16 X K hX hbl hL (by omega) 400 (Nat.le_refl _) (by omega) hJ hw hl cont
    by_cases g17 : y = (17 : Int32)
    · refine lv_tableIn (tgt := 536) (off := 504) X.1 X.2.1 d_W_law_32 (by rw [g17]; decide) (by rw [g17]; decide) (by rw [g17]; decide) (by decide) ?_
      exact law_17 X K hX hbl hL (by omega) 400 (Nat.le_refl _) (by omega) hJ hw hl cont
    by_cases g18 : y = (18 : Int32)
    · refine lv_tableIn (tgt := 569) (off := 537) X.1 X.2.1 d_W_law_32 (by rw [g18]; decide) (by rw [g18]; decide) (by rw [g18]; decide) (by decide) ?_
      exact law_18 X K hX hbl hL (by omega) 400 (Nat.le_refl _) (by omega) hJ hw hl cont
    refine lv_tableOut (tgt := 592) X.1 X.2.1 d_W_law_32 (by have := lv_neT g0 (a := 0) (by decide); have := lv_neT g1 (a := 1) (by decide); have := lv_neT g2 (a := 2) (by decide); have := lv_neT g3 (a := 3) (by decide); have := lv_neT g4 (a := 4) (by decide); have := lv_neT g5 (a := 5) (by decide); have := lv_neT g6 (a := 6) (by decide); have := lv_neT g7 (a := 7) (by decide); have := lv_neT g8 (a := 8) (by decide); have := lv_neT g9 (a := 9) (by decide); have := lv_neT g10 (a := 10) (by decide); have := lv_neT g11 (a := 11) (by decide); have := lv_neT g12 (a := 12) (by decide); have := lv_neT g13 (a := 13) (by decide); have := lv_neT g14 (a := 14) (by decide); have := lv_neT g15 (a := 15) (by decide); have := lv_neT g16 (a := 16) (by decide); have := lv_neT g17 (a := 17) (by decide); have := lv_neT g18 (a := 18) (by decide); omega) (by decide) ?_
    exact cont h H locs (hJ.mono (by omega)) hw
end LOOP
theorem KK_of {p : Program} {s : State} {m : MethodId} {c : Code} {b : Nat} (X : CallFix p m c code 4 s #[Value.ref b] TB R_W) (hts : ∀ w ∈ lw_tbl, w.before #[Value.ref b] s = true) : ∃ (D : va_G) (cI cZ : ClassId), KK D cI cZ s := by
  obtain ⟨c0, j0, k0⟩ := u_known (ws := TB) (args := #[Value.ref b]) X.2.2.2.2 inT_V (X.2.2.2.2 _ (TBi 10 (by decide +kernel) (by decide +kernel) : Cond.instantiable R_V 5 ∈ TB))
  obtain ⟨c1, j1, k1⟩ := u_known (ws := TB) (args := #[Value.ref b]) X.2.2.2.2 inT_N (X.2.2.2.2 _ (TBi 18 (by decide +kernel) (by decide +kernel) : Cond.instantiable R_N 17 ∈ TB))
  obtain ⟨c2, j2, k2⟩ := u_known (ws := TB) (args := #[Value.ref b]) X.2.2.2.2 inT_E (X.2.2.2.2 _ (TBi 24 (by decide +kernel) (by decide +kernel) : Cond.instantiable R_E 2 ∈ TB))
  obtain ⟨c3, j3, k3⟩ := u_known (ws := TB) (args := #[Value.ref b]) X.2.2.2.2 inT_O (X.2.2.2.2 _ (TBi 38 (by decide +kernel) (by decide +kernel) : Cond.instantiable R_O 5 ∈ TB))
  obtain ⟨c4, j4, k4⟩ := u_known (ws := TB) (args := #[Value.ref b]) X.2.2.2.2 inT_L (X.2.2.2.2 _ (TBi 62 (by decide +kernel) (by decide +kernel) : Cond.instantiable R_L 2 ∈ TB))
  obtain ⟨c5, j5, k5⟩ := u_known (ws := TB) (args := #[Value.ref b]) X.2.2.2.2 inT_T (X.2.2.2.2 _ (TBi 144 (by decide +kernel) (by decide +kernel) : Cond.instantiable R_T 6 ∈ TB))
  obtain ⟨c6, j6, k6⟩ := u_known (ws := TB) (args := #[Value.ref b]) X.2.2.2.2 inT_M (X.2.2.2.2 _ (TBi 421 (by decide +kernel) (by decide +kernel) : Cond.instantiable R_M 28 ∈ TB))
  obtain ⟨cI, kI, pI, i1, i2, i3⟩ := Cond.arrayClass_spec (X.2.2.2.2 _ ka_int)
  obtain ⟨cZ, kZ, pZ, z1, z2, z3⟩ := Cond.arrayClass_spec (X.2.2.2.2 _ ka_boolean)
  refine ⟨((fun n => match n with | 0 => c0 | 1 => c1 | 2 => c2 | 3 => c3 | 4 => c4 | 5 => c5 | _ => c6), (fun n => match n with | 0 => j0 | 1 => j1 | 2 => j2 | 3 => j3 | 4 => j4 | 5 => j5 | _ => j6)), cI, cZ, ⟨fun n q hq => ?_, fun k q hq => ?_⟩, ?_⟩
  · match n, hq with
    | 0, hq =>
      cases hq
      exact k0
    | 1, hq =>
      cases hq
      exact k1
    | 2, hq =>
      cases hq
      exact k2
    | 3, hq =>
      cases hq
      exact k3
    | 4, hq =>
      cases hq
      exact k4
    | 5, hq =>
      cases hq
      exact k5
    | 6, hq =>
      cases hq
      exact k6
    | n + 7, hq => cases hq
  · match k, hq with
    | 0, hq =>
      cases hq
      exact ⟨fun n z => ⟨fun k h => (by cases h), kI, i2, pI, i3⟩, i1⟩
    | 1, hq =>
      cases hq
      exact ⟨fun n z => ⟨fun k h => (by cases h), kZ, z2, pZ, z3⟩, z1⟩
    | k + 2, hq => cases hq
  · exact va_Nw.of rfl (hts _ (List.mem_append_right _ (List.mem_of_getElem? (i := 224) (by decide +kernel))))
theorem zr0 (n : Nat) : Zr n (fun _ _ => 0) := fun _ _ _ => rfl
theorem zrV {n : Nat} (hn : 12 ≤ n) : Zr n (u2 (u2 (u2 (u2 (u2 (u2 (u2 (u2 (u2 (u2 (fun _ _ => 0) 1 0 (0 : Int32)) 1 6 (1 : Int32)) 1 10 (1 : Int32)) 1 16 (1 : Int32)) 11 0 (1 : Int32)) 11 6 (1 : Int32)) 11 10 (1 : Int32)) 11 16 (1 : Int32)) 0 3 (0 : Int32)) 0 4 (1 : Int32)) := by
  intro j hj k
  rw [u2_i _ _ _ (by omega), u2_i _ _ _ (by omega), u2_i _ _ _ (by omega), u2_i _ _ _ (by omega), u2_i _ _ _ (by omega), u2_i _ _ _ (by omega), u2_i _ _ _ (by omega), u2_i _ _ _ (by omega), u2_i _ _ _ (by omega), u2_i _ _ _ (by omega)]
set_option maxHeartbeats 4000000 in
set_option maxRecDepth 100000 in
theorem whole_start {p : Program} {e : Env} {s : State} {m : MethodId} {below : List Frame} {meth : Method} {c : Code} (l : Launch) {b L : Nat} {xs : Nat → Int32} (hL : L ≤ 2048) (C0 : lw_At p s m meth c b L xs) : W p l e room_1 s m #[Value.ref b] below meth c s.heap [] 0 0 (lw_Z below #[Value.ref b] s) (entryFrame m ([Value.ref b] : List Value).toArray 4) := by
  obtain ⟨hx, hb, hr, hml, hown, hts, hX, hbl, hlk, hgv⟩ := C0
  have X : CallFix p m c code 4 s #[Value.ref b] TB R_W := ⟨hx, hb, hml, hown, fun w hw => hts w (List.mem_filter.mp hw).1⟩
  obtain ⟨D, cI, cZ, K⟩ := KK_of X hts
  have hl := lv_entry ([.ref b]) (n := 4) (Nat.le_of_ble_eq_true rfl)
  rw [lg_entry_eq]
  generalize (lg_sl ([.ref b]) ++ List.replicate (4 - (lg_sl ([.ref b])).length) Slot.unset).toArray = ls at hl ⊢
  have hl : Lc ls 4 [some (.ref b), none, none, none] := Lc_entry (avs := [.ref b]) (cat_ok rfl) hl
  have hB : s.heap.size ≤ s.heap.size := Nat.le_refl _
  have hw : Hw D cI cZ s.heap.size (fun _ => 0) s [] (fun _ _ => 0) s.heap [] := ⟨fun k x hx => (by simp [wld] at hx), va_S.rf, fun i j hi => absurd hi (Nat.not_lt_zero _), fun i hi => absurd hi (Nat.not_lt_zero _)⟩
  refine k_new X K hw hB nf_W_7 (zr0 _) rfl (Nat.le_of_ble_eq_true rfl) (Nat.le_of_ble_eq_true rfl) (by decide) d_W_law_0 (fun q1 H hw => ?_)
  have hw : Hw D cI cZ s.heap.size (ext (fun _ => 0) 0 (fun _ => q1)) s [.inr (0, [1, 1, 1, 0, 0])] _ H _ := hw
  refine lv_dup X.1 X.2.1 d_W_law_3 rfl ?_
  refine k_ctor (rest := [.ref q1]) X K hw hB hl.1 mf_W_9 (c_V_init_0 l D cI cZ s.heap.size _ _ (zr0 _)) (by decide) ⟨Nat.le_of_ble_eq_true rfl, Nat.le_of_ble_eq_true rfl⟩ rfl rfl (Nat.le_of_ble_eq_true rfl) d_W_law_4 (fun f2 H locs hw => ?_)
  refine r_astore_n X hl d_W_law_7 rfl (by decide) (fun ls hl => ?_)
  have hl : Lc ls 4 [some (.ref b), some (.ref q1), none, none] := hl
  refine k_new X K hw hB nf_W_10 (zrV (Nat.le_of_ble_eq_true rfl)) rfl (Nat.le_of_ble_eq_true rfl) (Nat.le_of_ble_eq_true rfl) (by decide) d_W_law_8 (fun q3 H hw => ?_)
  refine lv_dup X.1 X.2.1 d_W_law_11 rfl ?_
  refine k_ctor (rest := [.ref q3]) X K hw hB hl.1 mf_W_12 (c_M_init_27 l D cI cZ s.heap.size (ext (ext (ext (fun _ => 0) 0 (fun _ => q1)) 1 f2) 27 (fun _ => q3)) _ (zrV (Nat.le_of_ble_eq_true rfl))) (by decide) ⟨Nat.le_of_ble_eq_true rfl, Nat.le_of_ble_eq_true rfl⟩ rfl rfl (Nat.le_of_ble_eq_true rfl) d_W_law_12 (fun f4 H locs hw => ?_)
  refine r_astore_n X hl d_W_law_15 rfl (by decide) (fun ls hl => ?_)
  have hl : Lc ls 4 [some (.ref b), some (.ref q1), some (.ref q3), none] := hl
  refine lv_iconst (v := nI 0) X.1 X.2.1 d_W_law_16 (by decide +kernel) ?_
  refine r_istore_n X hl d_W_law_17 rfl (by decide) (fun ls hl => ?_)
  have hl : Lc ls 4 [some (.ref b), some (.ref ((ext (ext (ext (ext (fun _ => 0) 0 (fun _ => q1)) 1 f2) 27 (fun _ => q3)) 28 f4) 0)), some (.ref ((ext (ext (ext (ext (fun _ => 0) 0 (fun _ => q1)) 1 f2) 27 (fun _ => q3)) 28 f4) 27)), some (.int (nI 0))] := hl
  have hw : Hw D cI cZ s.heap.size (ext (ext (ext (ext (fun _ => 0) 0 (fun _ => q1)) 1 f2) 27 (fun _ => q3)) 28 f4) s shape _ H _ := hw
  generalize (ext (ext (ext (ext (fun _ => 0) 0 (fun _ => q1)) 1 f2) 27 (fun _ => q3)) 28 f4) = ad at hl hw
  exact law_loop X K hX hbl hL hr hlk (L / 4) 0 0 _ H _ ls (by omega) (by omega) (by omega) J2_start hw hl
